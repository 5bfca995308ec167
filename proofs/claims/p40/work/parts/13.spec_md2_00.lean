section
section
variable {l : Launch} {g : pm_G} {A0 : pm_H} {h : Nat} {q : Nat → Nat}
set_option maxRecDepth 100000 in
set_option maxHeartbeats 2000000 in
theorem c_X11_place (D : md_D h q) (v : Nat → Int32) (f : Nat → Nat → Int32) (hv : md_V v) (hf : md_F f) (x1 : Int32)  : pm_Mt l g 197 1 0 0 [.ref h, .int x1] (md A0 g h q v f) (md_Qp (md A0 g h q v f) (fun r => -1 ≤ r.toInt ∧ r.toInt < (v 0).toInt)) := by
  refine mt_X11_place rfl (fun J hC => ?_)
  have hv9 := hv
  unfold md_V at hv9
  have rg_x1 := pm_rng x1
  show J 0 [some (.ref h), some (.int x1)] [] (md A0 g h q v f) 0 0
  refine hC.1 0 0 _ _ rfl _ _ _ _ _ ?_
  refine pq_iload_n1 (pq_icond_ge ?_)
  refine And.intro (fun c1 => ?_) (fun c1 => ?_)
  · skip
    refine hC.1 1 8 _ _ rfl _ _ _ _ _ ?_
    refine pq_aload_n0 (pq_iload_n1 (pq_iv1_11 ?_))
    refine And.intro (Exists.intro _ md_o) (Exists.intro _ (Exists.intro _ (Exists.intro _ (Exists.intro _ (And.intro (c_X11_placeOf D v f hv hf x1 ) (And.intro rfl (fun r9 A9 h9 => ?_)))))))
    obtain ⟨y2, rfl, rfl, by2⟩ := h9
    refine pq_id1 (pq_nil ?_)
    refine hC.1 2 13 _ _ rfl _ _ _ _ _ ?_
    refine pq_iret ?_
    exact ⟨rfl, fun e9 => absurd e9 (by decide), rfl, y2, rfl, rfl, by first | omega | (dsimp only; omega) | trivial⟩
  · skip
    have km1 : (-1 : Int32).toInt = -1 := rfl
    refine pq_iconst (pq_goto ?_)
    refine hC.1 2 13 _ _ rfl _ _ _ _ _ ?_
    refine pq_iret ?_
    exact ⟨rfl, fun e9 => absurd e9 (by decide), rfl, (-1 : Int32), rfl, rfl, by first | omega | (dsimp only; omega) | trivial⟩

set_option maxRecDepth 100000 in
set_option maxHeartbeats 2000000 in
theorem c_X11_first (D : md_D h q) (v : Nat → Int32) (f : Nat → Nat → Int32) (hv : md_V v) (hf : md_F f) (x1 : Int32)  : pm_Mt l g 201 0 0 0 [.ref h, .int x1] (md A0 g h q v f) (md_Qp (md A0 g h q v f) (fun r => True)) := by
  refine mt_X11_first rfl (fun J hC => ?_)
  have hv9 := hv
  unfold md_V at hv9
  have rg_x1 := pm_rng x1
  show J 0 [some (.ref h), some (.int x1), none] [] (md A0 g h q v f) 0 0
  refine hC.1 0 0 _ _ rfl _ _ _ _ _ ?_
  have k0 : (0 : Int32).toInt = 0 := rfl
  refine pq_iconst (pq_istore_n [some (.ref h), some (.int x1), some (.int (0 : Int32))] rfl (pq_nil ?_))
  have lp1 : ∀ (n : Nat) (z2_2 : Int32), (0 ≤ z2_2.toInt ∧ z2_2.toInt ≤ (v 0).toInt) → 200 - z2_2.toInt < (n : Int) → J 2 [some (.ref h), some (.int x1), some (.int z2_2)] [] (md A0 g h q v f) 0 0 := by
    intro n
    induction n with
    | zero =>
      intro z2_2 j0_2 j1_2
      omega
    | succ n ih2 =>
      intro z2_2 j0_2 j1_2
      refine hC.1 1 2 _ _ rfl _ _ _ _ _ ?_
      refine pq_iload_n2 (pq_aload_n0 (qgm_many (pq_icmp_ge ?_)))
      refine And.intro (fun c3 => ?_) (fun c3 => ?_)
      · skip
        refine hC.1 3 28 _ _ rfl _ _ _ _ _ ?_
        have km1 : (-1 : Int32).toInt = -1 := rfl
        refine pq_iconst (pq_iret ?_)
        exact ⟨rfl, fun e9 => absurd e9 (by decide), rfl, (-1 : Int32), rfl, rfl, by exact True.intro⟩
      · skip
        refine pq_aload_n0 (qgm_colours (pq_iload_n2 (qlm_colours D (by omega) ?_)))
        have w4 : (0 : Int) ≤ (f 0 (z2_2).toInt.toNat).toInt ∧ (f 0 (z2_2).toInt.toNat).toInt ≤ (23 : Int) := hf 0 _
        refine pq_iload_n1 (pq_icmp_ne ?_)
        refine And.intro (fun c5 => ?_) (fun c5 => ?_)
        · skip
          have dc5 := pm_neI c5
          refine hC.1 2 22 _ _ rfl _ _ _ _ _ ?_
          have k1 : (1 : Int32).toInt = 1 := rfl
          refine pq_iinc (fun zm_9 => [some (.ref h), some (.int x1), some (.int zm_9)]) rfl (fun _ => rfl) ?_
          intro m6 em_22
          try have e6 : m6.toInt = (z2_2).toInt + (1) := by rw [em_22]; exact pm_addc _ _ (1) rfl (by omega) (by omega)
          refine pq_goto ?_
          exact ih2 m6 (by omega) (by omega)
        · skip
          have dc5 : ((f 0 (z2_2).toInt.toNat)).toInt = (x1 : Int32).toInt := congrArg Int32.toInt c5
          refine pq_iload_n2 (pq_iret ?_)
          exact ⟨rfl, fun e9 => absurd e9 (by decide), rfl, z2_2, rfl, rfl, by exact True.intro⟩
  exact lp1 (200 - (0 : Int32).toInt).toNat.succ (0 : Int32) (by omega) (by omega)

set_option maxRecDepth 100000 in
set_option maxHeartbeats 2000000 in
theorem c_X11_last (D : md_D h q) (v : Nat → Int32) (f : Nat → Nat → Int32) (hv : md_V v) (hf : md_F f) (x1 : Int32)  : pm_Mt l g 202 0 0 0 [.ref h, .int x1] (md A0 g h q v f) (md_Qp (md A0 g h q v f) (fun r => True)) := by
  refine mt_X11_last rfl (fun J hC => ?_)
  have hv9 := hv
  unfold md_V at hv9
  have rg_x1 := pm_rng x1
  show J 0 [some (.ref h), some (.int x1), none] [] (md A0 g h q v f) 0 0
  refine hC.1 0 0 _ _ rfl _ _ _ _ _ ?_
  refine pq_aload_n0 (qgm_many ?_)
  have k1 : (1 : Int32).toInt = 1 := rfl
  refine pq_iconst (pq_isub ?_)
  intro m1 em_5
  try have e1 : m1.toInt = ((v 0)).toInt - (1) := by rw [em_5]; exact pm_subc _ _ (1) rfl (by omega) (by omega)
  refine pq_istore_n [some (.ref h), some (.int x1), some (.int m1)] rfl (pq_nil ?_)
  have lp2 : ∀ (n : Nat) (z2_7 : Int32), (-1 ≤ z2_7.toInt ∧ z2_7.toInt < (v 0).toInt) → z2_7.toInt + 1 < (n : Int) → J 7 [some (.ref h), some (.int x1), some (.int z2_7)] [] (md A0 g h q v f) 0 0 := by
    intro n
    induction n with
    | zero =>
      intro z2_7 j0_7 j1_7
      omega
    | succ n ih3 =>
      intro z2_7 j0_7 j1_7
      refine hC.1 1 7 _ _ rfl _ _ _ _ _ ?_
      refine pq_iload_n2 (pq_icond_lt ?_)
      refine And.intro (fun c4 => ?_) (fun c4 => ?_)
      · skip
        refine hC.1 3 29 _ _ rfl _ _ _ _ _ ?_
        have km1 : (-1 : Int32).toInt = -1 := rfl
        refine pq_iconst (pq_iret ?_)
        exact ⟨rfl, fun e9 => absurd e9 (by decide), rfl, (-1 : Int32), rfl, rfl, by exact True.intro⟩
      · skip
        refine pq_aload_n0 (qgm_colours (pq_iload_n2 (qlm_colours D (by omega) ?_)))
        have w5 : (0 : Int) ≤ (f 0 (z2_7).toInt.toNat).toInt ∧ (f 0 (z2_7).toInt.toNat).toInt ≤ (23 : Int) := hf 0 _
        refine pq_iload_n1 (pq_icmp_ne ?_)
        refine And.intro (fun c6 => ?_) (fun c6 => ?_)
        · skip
          have dc6 := pm_neI c6
          refine hC.1 2 23 _ _ rfl _ _ _ _ _ ?_
          have km1 : (-1 : Int32).toInt = -1 := rfl
          refine pq_iinc (fun zm_9 => [some (.ref h), some (.int x1), some (.int zm_9)]) rfl (fun _ => rfl) ?_
          intro m7 em_23
          try have e7 : m7.toInt = (z2_7).toInt + (-1) := by rw [em_23]; exact pm_addc _ _ (-1) rfl (by omega) (by omega)
          refine pq_goto ?_
          exact ih3 m7 (by omega) (by omega)
        · skip
          have dc6 : ((f 0 (z2_7).toInt.toNat)).toInt = (x1 : Int32).toInt := congrArg Int32.toInt c6
          refine pq_iload_n2 (pq_iret ?_)
          exact ⟨rfl, fun e9 => absurd e9 (by decide), rfl, z2_7, rfl, rfl, by exact True.intro⟩
  exact lp2 (m1.toInt + 1).toNat.succ m1 (by omega) (by omega)

set_option maxRecDepth 100000 in
set_option maxHeartbeats 2000000 in
theorem c_X11_widest (D : md_D h q) (v : Nat → Int32) (f : Nat → Nat → Int32) (hv : md_V v) (hf : md_F f) (x1 : Int32)  : pm_Mt l g 203 1 0 0 [.ref h, .int x1] (md A0 g h q v f) (md_Qp (md A0 g h q v f) (fun r => True)) := by
  refine mt_X11_widest rfl (fun J hC => ?_)
  have hv9 := hv
  unfold md_V at hv9
  have rg_x1 := pm_rng x1
  show J 0 [some (.ref h), some (.int x1), none, none] [] (md A0 g h q v f) 0 0
  refine hC.1 0 0 _ _ rfl _ _ _ _ _ ?_
  have km1 : (-1 : Int32).toInt = -1 := rfl
  refine pq_iconst (pq_istore_n [some (.ref h), some (.int x1), some (.int (-1 : Int32)), none] rfl ?_)
  have k0 : (0 : Int32).toInt = 0 := rfl
  refine pq_iconst (pq_istore_n [some (.ref h), some (.int x1), some (.int (-1 : Int32)), some (.int (0 : Int32))] rfl (pq_nil ?_))
  have lp1 : ∀ (n : Nat) (z2_4 : Int32) (z3_4 : Int32), (0 ≤ z3_4.toInt ∧ z3_4.toInt ≤ (v 0).toInt) → 200 - z3_4.toInt < (n : Int) → J 4 [some (.ref h), some (.int x1), some (.int z2_4), some (.int z3_4)] [] (md A0 g h q v f) 0 0 := by
    intro n
    induction n with
    | zero =>
      intro z2_4 z3_4 j0_4 j1_4
      omega
    | succ n ih2 =>
      intro z2_4 z3_4 j0_4 j1_4
      refine hC.1 1 4 _ _ rfl _ _ _ _ _ ?_
      refine pq_iload_n3 (pq_aload_n0 (qgm_many (pq_icmp_ge ?_)))
      refine And.intro (fun c3 => ?_) (fun c3 => ?_)
      · skip
        refine hC.1 3 59 _ _ rfl _ _ _ _ _ ?_
        refine pq_iload_n2 (pq_iret ?_)
        exact ⟨rfl, fun e9 => absurd e9 (by decide), rfl, z2_4, rfl, rfl, by exact True.intro⟩
      · skip
        refine pq_aload_n0 (qgm_colours (pq_iload_n3 (qlm_colours D (by omega) ?_)))
        have w4 : (0 : Int) ≤ (f 0 (z3_4).toInt.toNat).toInt ∧ (f 0 (z3_4).toInt.toNat).toInt ≤ (23 : Int) := hf 0 _
        refine pq_iload_n1 (pq_icmp_ne ?_)
        refine And.intro (fun c5 => ?_) (fun c5 => ?_)
        · skip
          have dc5 := pm_neI c5
          refine hC.1 2 53 _ _ rfl _ _ _ _ _ ?_
          have k1 : (1 : Int32).toInt = 1 := rfl
          refine pq_iinc (fun zm_9 => [some (.ref h), some (.int x1), some (.int z2_4), some (.int zm_9)]) rfl (fun _ => rfl) ?_
          intro m6 em_53
          try have e6 : m6.toInt = (z3_4).toInt + (1) := by rw [em_53]; exact pm_addc _ _ (1) rfl (by omega) (by omega)
          refine pq_goto ?_
          exact ih2 z2_4 m6 (by omega) (by omega)
        · skip
          have dc5 : ((f 0 (z3_4).toInt.toNat)).toInt = (x1 : Int32).toInt := congrArg Int32.toInt c5
          refine pq_aload_n0 (pq_iload_n3 (pq_iv1_11 ?_))
          refine And.intro (Exists.intro _ md_o) (Exists.intro _ (Exists.intro _ (Exists.intro _ (Exists.intro _ (And.intro (c_X11_ahead D v f hv hf z3_4 (by omega)) (And.intro rfl (fun r9 A9 h9 => ?_)))))))
          obtain ⟨y7, rfl, rfl, by7⟩ := h9
          refine pq_id1 (pq_icond_lt ?_)
          refine And.intro (fun c8 => ?_) (fun c8 => ?_)
          · skip
            refine hC.1 2 53 _ _ rfl _ _ _ _ _ ?_
            have k1 : (1 : Int32).toInt = 1 := rfl
            refine pq_iinc (fun zm_9 => [some (.ref h), some (.int x1), some (.int z2_4), some (.int zm_9)]) rfl (fun _ => rfl) ?_
            intro m9 em_53
            try have e9 : m9.toInt = (z3_4).toInt + (1) := by rw [em_53]; exact pm_addc _ _ (1) rfl (by omega) (by omega)
            refine pq_goto ?_
            exact ih2 z2_4 m9 (by omega) (by omega)
          · skip
            refine pq_iload_n3 (pq_aload_n0 (pq_iload_n3 (pq_iv1_11 ?_)))
            refine And.intro (Exists.intro _ md_o) (Exists.intro _ (Exists.intro _ (Exists.intro _ (Exists.intro _ (And.intro (c_X11_ahead D v f hv hf z3_4 (by omega)) (And.intro rfl (fun r9 A9 h9 => ?_)))))))
            obtain ⟨y10, rfl, rfl, by10⟩ := h9
            refine pq_id1 (pq_isub ?_)
            intro m11 em_36
            try have e11 : m11.toInt = (z3_4).toInt - (y10).toInt := by rw [em_36]; exact pm_sub _ _ (by omega) (by omega)
            have k1 : (1 : Int32).toInt = 1 := rfl
            refine pq_iconst (pq_isub ?_)
            intro m12 em_38
            try have e12 : m12.toInt = (m11).toInt - (1) := by rw [em_38]; exact pm_subc _ _ (1) rfl (by omega) (by omega)
            refine pq_iload_n2 (pq_icmp_le ?_)
            refine And.intro (fun c13 => ?_) (fun c13 => ?_)
            · skip
              refine hC.1 2 53 _ _ rfl _ _ _ _ _ ?_
              refine pq_iinc (fun zm_9 => [some (.ref h), some (.int x1), some (.int z2_4), some (.int zm_9)]) rfl (fun _ => rfl) ?_
              intro m14 em_53
              try have e14 : m14.toInt = (z3_4).toInt + (1) := by rw [em_53]; exact pm_addc _ _ (1) rfl (by omega) (by omega)
              refine pq_goto ?_
              exact ih2 z2_4 m14 (by omega) (by omega)
            · skip
              refine pq_iload_n3 (pq_aload_n0 (pq_iload_n3 (pq_iv1_11 ?_)))
              refine And.intro (Exists.intro _ md_o) (Exists.intro _ (Exists.intro _ (Exists.intro _ (Exists.intro _ (And.intro (c_X11_ahead D v f hv hf z3_4 (by omega)) (And.intro rfl (fun r9 A9 h9 => ?_)))))))
              obtain ⟨y15, rfl, rfl, by15⟩ := h9
              refine pq_id1 (pq_isub ?_)
              intro m16 em_49
              try have e16 : m16.toInt = (z3_4).toInt - (y15).toInt := by rw [em_49]; exact pm_sub _ _ (by omega) (by omega)
              refine pq_iconst (pq_isub ?_)
              intro m17 em_51
              try have e17 : m17.toInt = (m16).toInt - (1) := by rw [em_51]; exact pm_subc _ _ (1) rfl (by omega) (by omega)
              refine pq_istore_n [some (.ref h), some (.int x1), some (.int m17), some (.int z3_4)] rfl (pq_nil ?_)
              refine hC.1 2 53 _ _ rfl _ _ _ _ _ ?_
              refine pq_iinc (fun zm_9 => [some (.ref h), some (.int x1), some (.int m17), some (.int zm_9)]) rfl (fun _ => rfl) ?_
              intro m18 em_53
              try have e18 : m18.toInt = (z3_4).toInt + (1) := by rw [em_53]; exact pm_addc _ _ (1) rfl (by omega) (by omega)
              refine pq_goto ?_
              exact ih2 m17 m18 (by omega) (by omega)
  exact lp1 (200 - (0 : Int32).toInt).toNat.succ (-1 : Int32) (0 : Int32) (by omega) (by omega)

set_option maxRecDepth 100000 in
set_option maxHeartbeats 2000000 in
theorem c_X11_timesIn (D : md_D h q) (v : Nat → Int32) (f : Nat → Nat → Int32) (hv : md_V v) (hf : md_F f) (x1 : Int32) (x2 : Int32) (x3 : Int32) (p0 : 0 ≤ x1.toInt ∧ x1.toInt ≤ 160) (p1 : -1 ≤ x2.toInt ∧ x2.toInt < 160) : pm_Mt l g 200 0 0 0 [.ref h, .int x1, .int x2, .int x3] (md A0 g h q v f) (md_Qp (md A0 g h q v f) (fun r => True)) := by
  refine mt_X11_timesIn rfl (fun J hC => ?_)
  have hv9 := hv
  unfold md_V at hv9
  have rg_x1 := pm_rng x1
  have rg_x2 := pm_rng x2
  have rg_x3 := pm_rng x3
  show J 0 [some (.ref h), some (.int x1), some (.int x2), some (.int x3), none, none] [] (md A0 g h q v f) 0 0
  refine hC.1 0 0 _ _ rfl _ _ _ _ _ ?_
  have k0 : (0 : Int32).toInt = 0 := rfl
  refine pq_iconst (pq_istore [some (.ref h), some (.int x1), some (.int x2), some (.int x3), some (.int (0 : Int32)), none] rfl (pq_iload_n1 (pq_istore [some (.ref h), some (.int x1), some (.int x2), some (.int x3), some (.int (0 : Int32)), some (.int x1)] rfl (pq_nil ?_))))
  have lp1 : ∀ (n : Nat) (z4_6 : Int32) (z5_6 : Int32), (0 ≤ z5_6.toInt ∧ z5_6.toInt ≤ 161) → 200 - z5_6.toInt < (n : Int) → J 6 [some (.ref h), some (.int x1), some (.int x2), some (.int x3), some (.int z4_6), some (.int z5_6)] [] (md A0 g h q v f) 0 0 := by
    intro n
    induction n with
    | zero =>
      intro z4_6 z5_6 j0_6 j1_6
      omega
    | succ n ih2 =>
      intro z4_6 z5_6 j0_6 j1_6
      refine hC.1 1 6 _ _ rfl _ _ _ _ _ ?_
      refine pq_iload5 (pq_iload_n2 (pq_icmp_gt ?_))
      refine And.intro (fun c3 => ?_) (fun c3 => ?_)
      · skip
        refine hC.1 4 39 _ _ rfl _ _ _ _ _ ?_
        refine pq_iload4 (pq_iret ?_)
        exact ⟨rfl, fun e9 => absurd e9 (by decide), rfl, z4_6, rfl, rfl, by exact True.intro⟩
      · skip
        refine pq_iload4 (pq_aload_n0 (qgm_colours (pq_iload5 (qlm_colours D (by omega) ?_))))
        have w4 : (0 : Int) ≤ (f 0 (z5_6).toInt.toNat).toInt ∧ (f 0 (z5_6).toInt.toNat).toInt ≤ (23 : Int) := hf 0 _
        refine pq_iload_n3 (pq_icmp_ne ?_)
        refine And.intro (fun c5 => ?_) (fun c5 => ?_)
        · skip
          have dc5 := pm_neI c5
          refine hC.1 2 29 _ _ rfl _ _ _ _ _ ?_
          refine pq_iconst (pq_nil ?_)
          refine hC.1 3 30 _ _ rfl _ _ _ _ _ ?_
          refine pq_iadd ?_
          intro m6 em_30
          try have e6 : m6.toInt = (z4_6).toInt + (0) := by rw [em_30]; exact pm_addc _ _ (0) rfl (by omega) (by omega)
          refine pq_istore [some (.ref h), some (.int x1), some (.int x2), some (.int x3), some (.int m6), some (.int z5_6)] rfl ?_
          have k1 : (1 : Int32).toInt = 1 := rfl
          refine pq_iinc (fun zm_9 => [some (.ref h), some (.int x1), some (.int x2), some (.int x3), some (.int m6), some (.int zm_9)]) rfl (fun _ => rfl) ?_
          intro m7 em_33
          try have e7 : m7.toInt = (z5_6).toInt + (1) := by rw [em_33]; exact pm_addc _ _ (1) rfl (by omega) (by omega)
          refine pq_goto ?_
          exact ih2 m6 m7 (by omega) (by omega)
        · skip
          have dc5 : ((f 0 (z5_6).toInt.toNat)).toInt = (x3 : Int32).toInt := congrArg Int32.toInt c5
          have k1 : (1 : Int32).toInt = 1 := rfl
          refine pq_iconst (pq_goto ?_)
          refine hC.1 3 30 _ _ rfl _ _ _ _ _ ?_
          refine pq_iadd ?_
          intro m8 em_30
          try have e8 : m8.toInt = (z4_6).toInt + (1) := by rw [em_30]; exact pm_addc _ _ (1) rfl (by omega) (by omega)
          refine pq_istore [some (.ref h), some (.int x1), some (.int x2), some (.int x3), some (.int m8), some (.int z5_6)] rfl (pq_iinc (fun zm_9 => [some (.ref h), some (.int x1), some (.int x2), some (.int x3), some (.int m8), some (.int zm_9)]) rfl (fun _ => rfl) ?_)
          intro m9 em_33
          try have e9 : m9.toInt = (z5_6).toInt + (1) := by rw [em_33]; exact pm_addc _ _ (1) rfl (by omega) (by omega)
          refine pq_goto ?_
          exact ih2 m8 m9 (by omega) (by omega)
  exact lp1 (200 - x1.toInt).toNat.succ (0 : Int32) x1 (by omega) (by omega)

set_option maxRecDepth 100000 in
set_option maxHeartbeats 2000000 in
theorem c_X11_setOf (D : md_D h q) (v : Nat → Int32) (f : Nat → Nat → Int32) (hv : md_V v) (hf : md_F f) (x1 : Int32) (x2 : Int32) (p0 : 0 ≤ x1.toInt ∧ x1.toInt ≤ 160) (p1 : -1 ≤ x2.toInt ∧ x2.toInt < 160) : pm_Mt l g 206 0 0 0 [.ref h, .int x1, .int x2] (md A0 g h q v f) (md_Qp (md A0 g h q v f) (fun r => r = setF (f 0) x1.toInt.toNat (x2.toInt + 1 - x1.toInt).toNat)) := by
  refine mt_X11_setOf rfl (fun J hC => ?_)
  have hv9 := hv
  unfold md_V at hv9
  have rg_x1 := pm_rng x1
  have rg_x2 := pm_rng x2
  show J 0 [some (.ref h), some (.int x1), some (.int x2), none, none] [] (md A0 g h q v f) 0 0
  refine hC.1 0 0 _ _ rfl _ _ _ _ _ ?_
  have k0 : (0 : Int32).toInt = 0 := rfl
  refine pq_iconst (pq_istore_n [some (.ref h), some (.int x1), some (.int x2), some (.int (0 : Int32)), none] rfl (pq_iload_n1 (pq_istore [some (.ref h), some (.int x1), some (.int x2), some (.int (0 : Int32)), some (.int x1)] rfl (pq_nil ?_))))
  have lp1 : ∀ (n : Nat) (z3_5 : Int32) (z4_5 : Int32), (x1.toInt ≤ z4_5.toInt ∧ z4_5.toInt ≤ 161 ∧ (z4_5.toInt ≤ x2.toInt + 1 ∨ z4_5.toInt = x1.toInt)) → (z3_5 = setF (f 0) x1.toInt.toNat (z4_5.toInt - x1.toInt).toNat) → 200 - z4_5.toInt < (n : Int) → J 5 [some (.ref h), some (.int x1), some (.int x2), some (.int z3_5), some (.int z4_5)] [] (md A0 g h q v f) 0 0 := by
    intro n
    induction n with
    | zero =>
      intro z3_5 z4_5 j0_5 j1_5 j2_5
      omega
    | succ n ih2 =>
      intro z3_5 z4_5 j0_5 j1_5 j2_5
      refine hC.1 1 5 _ _ rfl _ _ _ _ _ ?_
      refine pq_iload4 (pq_iload_n2 (pq_icmp_gt ?_))
      refine And.intro (fun c3 => ?_) (fun c3 => ?_)
      · skip
        refine hC.1 2 29 _ _ rfl _ _ _ _ _ ?_
        refine pq_iload_n3 (pq_iret ?_)
        exact ⟨rfl, fun e9 => absurd e9 (by decide), rfl, z3_5, rfl, rfl, by rw [j1_5]; congr 1; omega⟩
      · skip
        refine pq_iload_n3 ?_
        have k1 : (1 : Int32).toInt = 1 := rfl
        refine pq_iconst (pq_aload_n0 (qgm_colours (pq_iload4 (qlm_colours D (by omega) ?_))))
        have w4 : (0 : Int) ≤ (f 0 (z4_5).toInt.toNat).toInt ∧ (f 0 (z4_5).toInt.toNat).toInt ≤ (23 : Int) := hf 0 _
        refine pq_ishl (pq_ior (pq_istore_n [some (.ref h), some (.int x1), some (.int x2), some (.int (z3_5 ||| ((1 : Int32) <<< ((f 0 (z4_5).toInt.toNat) &&& 31)))), some (.int z4_5)] rfl (pq_iinc (fun zm_9 => [some (.ref h), some (.int x1), some (.int x2), some (.int (z3_5 ||| ((1 : Int32) <<< ((f 0 (z4_5).toInt.toNat) &&& 31)))), some (.int zm_9)]) rfl (fun _ => rfl) ?_)))
        intro m5 em_23
        try have e5 : m5.toInt = (z4_5).toInt + (1) := by rw [em_23]; exact pm_addc _ _ (1) rfl (by omega) (by omega)
        refine pq_goto ?_
        exact ih2 (z3_5 ||| ((1 : Int32) <<< ((f 0 (z4_5).toInt.toNat) &&& 31))) m5 (by omega) (by rw [j1_5]; exact setF_s (m := m5) (by omega) (by omega)) (by omega)
  exact lp1 (200 - x1.toInt).toNat.succ (0 : Int32) x1 (by omega) (by rw [show (x1.toInt - x1.toInt).toNat = 0 by omega]; rfl) (by omega)

set_option maxRecDepth 100000 in
set_option maxHeartbeats 2000000 in
theorem c_X11_countOf (D : md_D h q) (v : Nat → Int32) (f : Nat → Nat → Int32) (hv : md_V v) (hf : md_F f) (x1 : Int32) (x2 : Int32) (p0 : 0 ≤ x1.toInt ∧ x1.toInt ≤ 160) (p1 : -1 ≤ x2.toInt ∧ x2.toInt < 160) : pm_Mt l g 209 1 0 0 [.ref h, .int x1, .int x2] (md A0 g h q v f) (md_Qp (md A0 g h q v f) (fun r => True)) := by
  refine mt_X11_countOf rfl (fun J hC => ?_)
  have hv9 := hv
  unfold md_V at hv9
  have rg_x1 := pm_rng x1
  have rg_x2 := pm_rng x2
  show J 0 [some (.ref h), some (.int x1), some (.int x2)] [] (md A0 g h q v f) 0 0
  refine hC.1 0 0 _ _ rfl _ _ _ _ _ ?_
  refine pq_aload_n0 (pq_iload_n1 (pq_iload_n2 (pq_iv2_11 ?_)))
  refine And.intro (Exists.intro _ md_o) (Exists.intro _ (Exists.intro _ (Exists.intro _ (Exists.intro _ (And.intro (c_X11_setOf D v f hv hf x1 x2 (by omega) (by omega)) (And.intro rfl (fun r9 A9 h9 => ?_)))))))
  obtain ⟨y1, rfl, rfl, by1⟩ := h9
  refine pq_id1 (pq_is1 ?_)
  refine Exists.intro _ (Exists.intro _ (Exists.intro _ (Exists.intro _ (And.intro (c_X11_bits (md A0 g h q v f) y1 ) (And.intro rfl (fun r9 A9 h9 => ?_))))))
  obtain ⟨y2, rfl, rfl, by2⟩ := h9
  refine pq_id1 (pq_iret ?_)
  exact ⟨rfl, fun e9 => absurd e9 (by decide), rfl, y2, rfl, rfl, by exact True.intro⟩

set_option maxRecDepth 100000 in
set_option maxHeartbeats 2000000 in
theorem c_X11_weightOf (D : md_D h q) (v : Nat → Int32) (f : Nat → Nat → Int32) (hv : md_V v) (hf : md_F f) (x1 : Int32)  : pm_Mt l g 211 0 0 0 [.ref h, .int x1] (md A0 g h q v f) (md_Qp (md A0 g h q v f) (fun r => True)) := by
  refine mt_X11_weightOf rfl (fun J hC => ?_)
  have hv9 := hv
  unfold md_V at hv9
  have rg_x1 := pm_rng x1
  show J 0 [some (.ref h), some (.int x1), none, none] [] (md A0 g h q v f) 0 0
  refine hC.1 0 0 _ _ rfl _ _ _ _ _ ?_
  have k0 : (0 : Int32).toInt = 0 := rfl
  refine pq_iconst (pq_istore_n [some (.ref h), some (.int x1), some (.int (0 : Int32)), none] rfl (pq_iconst (pq_istore_n [some (.ref h), some (.int x1), some (.int (0 : Int32)), some (.int (0 : Int32))] rfl (pq_nil ?_))))
  have lp1 : ∀ (n : Nat) (z2_4 : Int32) (z3_4 : Int32), (0 ≤ z3_4.toInt ∧ z3_4.toInt ≤ 24) → 200 - z3_4.toInt < (n : Int) → J 4 [some (.ref h), some (.int x1), some (.int z2_4), some (.int z3_4)] [] (md A0 g h q v f) 0 0 := by
    intro n
    induction n with
    | zero =>
      intro z2_4 z3_4 j0_4 j1_4
      omega
    | succ n ih2 =>
      intro z2_4 z3_4 j0_4 j1_4
      refine hC.1 1 4 _ _ rfl _ _ _ _ _ ?_
      refine pq_iload_n3 ?_
      have k24 : (24 : Int32).toInt = 24 := rfl
      refine pq_bipush (pq_icmp_ge ?_)
      refine And.intro (fun c3 => ?_) (fun c3 => ?_)
      · skip
        refine hC.1 4 38 _ _ rfl _ _ _ _ _ ?_
        refine pq_iload_n2 (pq_iret ?_)
        exact ⟨rfl, fun e9 => absurd e9 (by decide), rfl, z2_4, rfl, rfl, by exact True.intro⟩
      · skip
        refine pq_iload_n2 (pq_iload_n1 (pq_iload_n3 (pq_ishr ?_)))
        have k1 : (1 : Int32).toInt = 1 := rfl
        refine pq_iconst (pq_iand (pq_iconst (pq_icmp_ne ?_)))
        refine And.intro (fun c4 => ?_) (fun c4 => ?_)
        · skip
          have dc4 := pm_neI c4
          refine hC.1 2 29 _ _ rfl _ _ _ _ _ ?_
          refine pq_iconst (pq_nil ?_)
          refine hC.1 3 30 _ _ rfl _ _ _ _ _ ?_
          refine pq_iadd ?_
          intro m5 em_30
          try have e5 : m5.toInt = (z2_4).toInt + (0) := by rw [em_30]; exact pm_addc _ _ (0) rfl (by omega) (by omega)
          refine pq_istore_n [some (.ref h), some (.int x1), some (.int m5), some (.int z3_4)] rfl (pq_iinc (fun zm_9 => [some (.ref h), some (.int x1), some (.int m5), some (.int zm_9)]) rfl (fun _ => rfl) ?_)
          intro m6 em_32
          try have e6 : m6.toInt = (z3_4).toInt + (1) := by rw [em_32]; exact pm_addc _ _ (1) rfl (by omega) (by omega)
          refine pq_goto ?_
          exact ih2 m5 m6 (by omega) (by omega)
        · skip
          have dc4 : (((x1 >>> (z3_4 &&& 31)) &&& (1 : Int32))).toInt = ((1 : Int32) : Int32).toInt := congrArg Int32.toInt c4
          refine pq_aload_n0 (qgm_weights (pq_iload_n3 (qlm_weights D (by omega) (pq_goto ?_))))
          refine hC.1 3 30 _ _ rfl _ _ _ _ _ ?_
          refine pq_iadd ?_
          intro m7 em_30
          try have e7 : m7.toInt = (z2_4).toInt + ((f 2 (z3_4).toInt.toNat)).toInt := by rw [em_30]; exact pm_add _ _ (by omega) (by omega)
          refine pq_istore_n [some (.ref h), some (.int x1), some (.int m7), some (.int z3_4)] rfl (pq_iinc (fun zm_9 => [some (.ref h), some (.int x1), some (.int m7), some (.int zm_9)]) rfl (fun _ => rfl) ?_)
          intro m8 em_32
          try have e8 : m8.toInt = (z3_4).toInt + (1) := by rw [em_32]; exact pm_addc _ _ (1) rfl (by omega) (by omega)
          refine pq_goto ?_
          exact ih2 m7 m8 (by omega) (by omega)
  exact lp1 (200 - (0 : Int32).toInt).toNat.succ (0 : Int32) (0 : Int32) (by omega) (by omega)

set_option maxRecDepth 100000 in
set_option maxHeartbeats 2000000 in
theorem c_X11_count (D : md_D h q) (v : Nat → Int32) (f : Nat → Nat → Int32) (hv : md_V v) (hf : md_F f) (x1 : Int32) (x2 : Int32)  : pm_Mt l g 208 2 0 0 [.ref h, .int x1, .int x2] (md A0 g h q v f) (md_Qp (md A0 g h q v f) (fun r => True)) := by
  refine mt_X11_count rfl (fun J hC => ?_)
  have hv9 := hv
  unfold md_V at hv9
  have rg_x1 := pm_rng x1
  have rg_x2 := pm_rng x2
  show J 0 [some (.ref h), some (.int x1), some (.int x2)] [] (md A0 g h q v f) 0 0
  refine hC.1 0 0 _ _ rfl _ _ _ _ _ ?_
  refine pq_aload_n0 (pq_iload_n1 (pq_iload_n2 (pq_iv2_11 ?_)))
  refine And.intro (Exists.intro _ md_o) (Exists.intro _ (Exists.intro _ (Exists.intro _ (Exists.intro _ (And.intro (c_X11_isSpan D v f hv hf x1 x2 ) (And.intro rfl (fun r9 A9 h9 => ?_)))))))
  rcases h9 with ⟨y1, rfl, rfl, ⟨rfl, by1⟩ | ⟨rfl, by1⟩⟩
  · skip
    have k1 : (1 : Int32).toInt = 1 := rfl
    refine pq_id1 (pq_icond_eq ?_)
    refine And.intro (fun c9 => absurd c9 (by decide)) (fun _ => ?_)
    refine pq_aload_n0 (pq_iload_n1 (pq_iload_n2 (pq_iv2_11 ?_)))
    refine And.intro (Exists.intro _ md_o) (Exists.intro _ (Exists.intro _ (Exists.intro _ (Exists.intro _ (And.intro (c_X11_countOf D v f hv hf x1 x2 (by omega) (by omega)) (And.intro rfl (fun r9 A9 h9 => ?_)))))))
    obtain ⟨y2, rfl, rfl, by2⟩ := h9
    refine pq_id1 (pq_goto ?_)
    refine hC.1 2 19 _ _ rfl _ _ _ _ _ ?_
    refine pq_iret ?_
    exact ⟨rfl, fun e9 => absurd e9 (by decide), rfl, y2, rfl, rfl, by exact True.intro⟩
  · skip
    have k0 : (0 : Int32).toInt = 0 := rfl
    refine pq_id1 (pq_icond_eq ?_)
    refine And.intro (fun _ => ?_) (fun c9 => absurd c9 (by decide))
    refine hC.1 1 18 _ _ rfl _ _ _ _ _ ?_
    have km1 : (-1 : Int32).toInt = -1 := rfl
    refine pq_iconst (pq_nil ?_)
    refine hC.1 2 19 _ _ rfl _ _ _ _ _ ?_
    refine pq_iret ?_
    exact ⟨rfl, fun e9 => absurd e9 (by decide), rfl, (-1 : Int32), rfl, rfl, by exact True.intro⟩

set_option maxRecDepth 100000 in
set_option maxHeartbeats 2000000 in
theorem c_X11_weight (D : md_D h q) (v : Nat → Int32) (f : Nat → Nat → Int32) (hv : md_V v) (hf : md_F f) (x1 : Int32) (x2 : Int32)  : pm_Mt l g 210 1 0 0 [.ref h, .int x1, .int x2] (md A0 g h q v f) (md_Qp (md A0 g h q v f) (fun r => True)) := by
  refine mt_X11_weight rfl (fun J hC => ?_)
  have hv9 := hv
  unfold md_V at hv9
  have rg_x1 := pm_rng x1
  have rg_x2 := pm_rng x2
  show J 0 [some (.ref h), some (.int x1), some (.int x2)] [] (md A0 g h q v f) 0 0
  refine hC.1 0 0 _ _ rfl _ _ _ _ _ ?_
  refine pq_aload_n0 (pq_iload_n1 (pq_iload_n2 (pq_iv2_11 ?_)))
  refine And.intro (Exists.intro _ md_o) (Exists.intro _ (Exists.intro _ (Exists.intro _ (Exists.intro _ (And.intro (c_X11_isSpan D v f hv hf x1 x2 ) (And.intro rfl (fun r9 A9 h9 => ?_)))))))
  rcases h9 with ⟨y1, rfl, rfl, ⟨rfl, by1⟩ | ⟨rfl, by1⟩⟩
  · skip
    have k1 : (1 : Int32).toInt = 1 := rfl
    refine pq_id1 (pq_icond_eq ?_)
    refine And.intro (fun c9 => absurd c9 (by decide)) (fun _ => ?_)
    refine pq_aload_n0 (pq_aload_n0 (pq_iload_n1 (pq_iload_n2 (pq_iv2_11 ?_))))
    refine And.intro (Exists.intro _ md_o) (Exists.intro _ (Exists.intro _ (Exists.intro _ (Exists.intro _ (And.intro (c_X11_setOf D v f hv hf x1 x2 (by omega) (by omega)) (And.intro rfl (fun r9 A9 h9 => ?_)))))))
    obtain ⟨y2, rfl, rfl, by2⟩ := h9
    refine pq_id1 (pq_iv1_11 ?_)
    refine And.intro (Exists.intro _ md_o) (Exists.intro _ (Exists.intro _ (Exists.intro _ (Exists.intro _ (And.intro (c_X11_weightOf D v f hv hf y2 ) (And.intro rfl (fun r9 A9 h9 => ?_)))))))
    obtain ⟨y3, rfl, rfl, by3⟩ := h9
    refine pq_id1 (pq_goto ?_)
    refine hC.1 2 23 _ _ rfl _ _ _ _ _ ?_
    refine pq_iret ?_
    exact ⟨rfl, fun e9 => absurd e9 (by decide), rfl, y3, rfl, rfl, by exact True.intro⟩
  · skip
    have k0 : (0 : Int32).toInt = 0 := rfl
    refine pq_id1 (pq_icond_eq ?_)
    refine And.intro (fun _ => ?_) (fun c9 => absurd c9 (by decide))
    refine hC.1 1 22 _ _ rfl _ _ _ _ _ ?_
    have km1 : (-1 : Int32).toInt = -1 := rfl
    refine pq_iconst (pq_nil ?_)
    refine hC.1 2 23 _ _ rfl _ _ _ _ _ ?_
    refine pq_iret ?_
    exact ⟨rfl, fun e9 => absurd e9 (by decide), rfl, (-1 : Int32), rfl, rfl, by exact True.intro⟩

set_option maxRecDepth 100000 in
set_option maxHeartbeats 2000000 in
theorem c_X11_set (D : md_D h q) (v : Nat → Int32) (f : Nat → Nat → Int32) (hv : md_V v) (hf : md_F f) (x1 : Int32) (x2 : Int32)  : pm_Mt l g 212 1 0 0 [.ref h, .int x1, .int x2] (md A0 g h q v f) (md_Qp (md A0 g h q v f) (fun r => True)) := by
  refine mt_X11_set rfl (fun J hC => ?_)
  have hv9 := hv
  unfold md_V at hv9
  have rg_x1 := pm_rng x1
  have rg_x2 := pm_rng x2
  show J 0 [some (.ref h), some (.int x1), some (.int x2)] [] (md A0 g h q v f) 0 0
  refine hC.1 0 0 _ _ rfl _ _ _ _ _ ?_
  refine pq_aload_n0 (pq_iload_n1 (pq_iload_n2 (pq_iv2_11 ?_)))
  refine And.intro (Exists.intro _ md_o) (Exists.intro _ (Exists.intro _ (Exists.intro _ (Exists.intro _ (And.intro (c_X11_isSpan D v f hv hf x1 x2 ) (And.intro rfl (fun r9 A9 h9 => ?_)))))))
  rcases h9 with ⟨y1, rfl, rfl, ⟨rfl, by1⟩ | ⟨rfl, by1⟩⟩
  · skip
    have k1 : (1 : Int32).toInt = 1 := rfl
    refine pq_id1 (pq_icond_eq ?_)
    refine And.intro (fun c9 => absurd c9 (by decide)) (fun _ => ?_)
    refine pq_aload_n0 (pq_iload_n1 (pq_iload_n2 (pq_iv2_11 ?_)))
    refine And.intro (Exists.intro _ md_o) (Exists.intro _ (Exists.intro _ (Exists.intro _ (Exists.intro _ (And.intro (c_X11_setOf D v f hv hf x1 x2 (by omega) (by omega)) (And.intro rfl (fun r9 A9 h9 => ?_)))))))
    obtain ⟨y2, rfl, rfl, by2⟩ := h9
    refine pq_id1 (pq_goto ?_)
    refine hC.1 2 19 _ _ rfl _ _ _ _ _ ?_
    refine pq_iret ?_
    exact ⟨rfl, fun e9 => absurd e9 (by decide), rfl, y2, rfl, rfl, by exact True.intro⟩
  · skip
    have k0 : (0 : Int32).toInt = 0 := rfl
    refine pq_id1 (pq_icond_eq ?_)
    refine And.intro (fun _ => ?_) (fun c9 => absurd c9 (by decide))
    refine hC.1 1 18 _ _ rfl _ _ _ _ _ ?_
    have km1 : (-1 : Int32).toInt = -1 := rfl
    refine pq_iconst (pq_nil ?_)
    refine hC.1 2 19 _ _ rfl _ _ _ _ _ ?_
    refine pq_iret ?_
    exact ⟨rfl, fun e9 => absurd e9 (by decide), rfl, (-1 : Int32), rfl, rfl, by exact True.intro⟩

end
end
section
section
variable {l : Launch} {g : pm_G} {A0 : pm_H} {h : Nat} {q : Nat → Nat}
set_option maxRecDepth 100000 in
set_option maxHeartbeats 2000000 in
theorem c_X11_times (D : md_D h q) (v : Nat → Int32) (f : Nat → Nat → Int32) (hv : md_V v) (hf : md_F f) (x1 : Int32) (x2 : Int32) (x3 : Int32)  : pm_Mt l g 213 2 0 0 [.ref h, .int x1, .int x2, .int x3] (md A0 g h q v f) (md_Qp (md A0 g h q v f) (fun r => True)) := by
  refine mt_X11_times rfl (fun J hC => ?_)
  have hv9 := hv
  unfold md_V at hv9
  have rg_x1 := pm_rng x1
  have rg_x2 := pm_rng x2
  have rg_x3 := pm_rng x3
  show J 0 [some (.ref h), some (.int x1), some (.int x2), some (.int x3)] [] (md A0 g h q v f) 0 0
  refine hC.1 0 0 _ _ rfl _ _ _ _ _ ?_
  refine pq_aload_n0 (pq_iload_n1 (pq_iload_n2 (pq_iv2_11 ?_)))
  refine And.intro (Exists.intro _ md_o) (Exists.intro _ (Exists.intro _ (Exists.intro _ (Exists.intro _ (And.intro (c_X11_isSpan D v f hv hf x1 x2 ) (And.intro rfl (fun r9 A9 h9 => ?_)))))))
  rcases h9 with ⟨y1, rfl, rfl, ⟨rfl, by1⟩ | ⟨rfl, by1⟩⟩
  · skip
    have k1 : (1 : Int32).toInt = 1 := rfl
    refine pq_id1 (pq_icond_eq ?_)
    refine And.intro (fun c9 => absurd c9 (by decide)) (fun _ => ?_)
    refine pq_iload_n3 (pq_is1 ?_)
    refine Exists.intro _ (Exists.intro _ (Exists.intro _ (Exists.intro _ (And.intro (c_X11_isColour (md A0 g h q v f) x3 ) (And.intro rfl (fun r9 A9 h9 => ?_))))))
    rcases h9 with ⟨y2, rfl, rfl, ⟨rfl, by2⟩ | ⟨rfl, by2⟩⟩
    · skip
      refine pq_id1 (pq_icond_eq ?_)
      refine And.intro (fun c9 => absurd c9 (by decide)) (fun _ => ?_)
      refine pq_aload_n0 (pq_iload_n1 (pq_iload_n2 (pq_iload_n3 (pq_iv3_11 ?_))))
      refine And.intro (Exists.intro _ md_o) (Exists.intro _ (Exists.intro _ (Exists.intro _ (Exists.intro _ (And.intro (c_X11_timesIn D v f hv hf x1 x2 x3 (by omega) (by omega)) (And.intro rfl (fun r9 A9 h9 => ?_)))))))
      obtain ⟨y3, rfl, rfl, by3⟩ := h9
      refine pq_id1 (pq_goto ?_)
      refine hC.1 2 27 _ _ rfl _ _ _ _ _ ?_
      refine pq_iret ?_
      exact ⟨rfl, fun e9 => absurd e9 (by decide), rfl, y3, rfl, rfl, by exact True.intro⟩
    · skip
      have k0 : (0 : Int32).toInt = 0 := rfl
      refine pq_id1 (pq_icond_eq ?_)
      refine And.intro (fun _ => ?_) (fun c9 => absurd c9 (by decide))
      refine hC.1 1 26 _ _ rfl _ _ _ _ _ ?_
      have km1 : (-1 : Int32).toInt = -1 := rfl
      refine pq_iconst (pq_nil ?_)
      refine hC.1 2 27 _ _ rfl _ _ _ _ _ ?_
      refine pq_iret ?_
      exact ⟨rfl, fun e9 => absurd e9 (by decide), rfl, (-1 : Int32), rfl, rfl, by exact True.intro⟩
  · skip
    have k0 : (0 : Int32).toInt = 0 := rfl
    refine pq_id1 (pq_icond_eq ?_)
    refine And.intro (fun _ => ?_) (fun c9 => absurd c9 (by decide))
    refine hC.1 1 26 _ _ rfl _ _ _ _ _ ?_
    have km1 : (-1 : Int32).toInt = -1 := rfl
    refine pq_iconst (pq_nil ?_)
    refine hC.1 2 27 _ _ rfl _ _ _ _ _ ?_
    refine pq_iret ?_
    exact ⟨rfl, fun e9 => absurd e9 (by decide), rfl, (-1 : Int32), rfl, rfl, by exact True.intro⟩

set_option maxRecDepth 100000 in
set_option maxHeartbeats 2000000 in
theorem c_X11_often (D : md_D h q) (v : Nat → Int32) (f : Nat → Nat → Int32) (hv : md_V v) (hf : md_F f) (x1 : Int32) (x2 : Int32) (x3 : Int32)  : pm_Mt l g 214 1 0 0 [.ref h, .int x1, .int x2, .int x3] (md A0 g h q v f) (md_Qp (md A0 g h q v f) (fun r => True)) := by
  refine mt_X11_often rfl (fun J hC => ?_)
  have hv9 := hv
  unfold md_V at hv9
  have rg_x1 := pm_rng x1
  have rg_x2 := pm_rng x2
  have rg_x3 := pm_rng x3
  show J 0 [some (.ref h), some (.int x1), some (.int x2), some (.int x3), none, none] [] (md A0 g h q v f) 0 0
  refine hC.1 0 0 _ _ rfl _ _ _ _ _ ?_
  refine pq_aload_n0 (pq_iload_n1 (pq_iload_n2 (pq_iv2_11 ?_)))
  refine And.intro (Exists.intro _ md_o) (Exists.intro _ (Exists.intro _ (Exists.intro _ (Exists.intro _ (And.intro (c_X11_isSpan D v f hv hf x1 x2 ) (And.intro rfl (fun r9 A9 h9 => ?_)))))))
  rcases h9 with ⟨y1, rfl, rfl, ⟨rfl, by1⟩ | ⟨rfl, by1⟩⟩
  · skip
    have k1 : (1 : Int32).toInt = 1 := rfl
    refine pq_id1 (pq_icond_eq ?_)
    refine And.intro (fun c9 => absurd c9 (by decide)) (fun _ => ?_)
    refine pq_iload_n3 (pq_iconst (pq_icmp_ge ?_))
    refine And.intro (fun c2 => ?_) (fun c2 => ?_)
    · skip
      refine hC.1 2 16 _ _ rfl _ _ _ _ _ ?_
      have k0 : (0 : Int32).toInt = 0 := rfl
      refine pq_iconst (pq_istore [some (.ref h), some (.int x1), some (.int x2), some (.int x3), some (.int (0 : Int32)), none] rfl (pq_iconst (pq_istore [some (.ref h), some (.int x1), some (.int x2), some (.int x3), some (.int (0 : Int32)), some (.int (0 : Int32))] rfl (pq_nil ?_))))
      have lp3 : ∀ (n : Nat) (z4_22 : Int32) (z5_22 : Int32), (0 ≤ z5_22.toInt ∧ z5_22.toInt ≤ 24) → 200 - z5_22.toInt < (n : Int) → J 22 [some (.ref h), some (.int x1), some (.int x2), some (.int x3), some (.int z4_22), some (.int z5_22)] [] (md A0 g h q v f) 0 0 := by
        intro n
        induction n with
        | zero =>
          intro z4_22 z5_22 j0_22 j1_22
          omega
        | succ n ih4 =>
          intro z4_22 z5_22 j0_22 j1_22
          refine hC.1 3 22 _ _ rfl _ _ _ _ _ ?_
          refine pq_iload5 ?_
          have k24 : (24 : Int32).toInt = 24 := rfl
          refine pq_bipush (pq_icmp_ge ?_)
          refine And.intro (fun c5 => ?_) (fun c5 => ?_)
          · skip
            refine hC.1 6 57 _ _ rfl _ _ _ _ _ ?_
            refine pq_iload4 (pq_iret ?_)
            exact ⟨rfl, fun e9 => absurd e9 (by decide), rfl, z4_22, rfl, rfl, by exact True.intro⟩
          · skip
            refine pq_iload4 (pq_aload_n0 (pq_iload_n1 (pq_iload_n2 (pq_iload5 (pq_iv3_11 ?_)))))
            refine And.intro (Exists.intro _ md_o) (Exists.intro _ (Exists.intro _ (Exists.intro _ (Exists.intro _ (And.intro (c_X11_timesIn D v f hv hf x1 x2 z5_22 (by omega) (by omega)) (And.intro rfl (fun r9 A9 h9 => ?_)))))))
            obtain ⟨y6, rfl, rfl, by6⟩ := h9
            refine pq_id1 (pq_iload_n3 (pq_icmp_lt ?_))
            refine And.intro (fun c7 => ?_) (fun c7 => ?_)
            · skip
              refine hC.1 4 47 _ _ rfl _ _ _ _ _ ?_
              refine pq_iconst (pq_nil ?_)
              refine hC.1 5 48 _ _ rfl _ _ _ _ _ ?_
              refine pq_iadd ?_
              intro m8 em_48
              try have e8 : m8.toInt = (z4_22).toInt + (0) := by rw [em_48]; exact pm_addc _ _ (0) rfl (by omega) (by omega)
              refine pq_istore [some (.ref h), some (.int x1), some (.int x2), some (.int x3), some (.int m8), some (.int z5_22)] rfl (pq_iinc (fun zm_9 => [some (.ref h), some (.int x1), some (.int x2), some (.int x3), some (.int m8), some (.int zm_9)]) rfl (fun _ => rfl) ?_)
              intro m9 em_51
              try have e9 : m9.toInt = (z5_22).toInt + (1) := by rw [em_51]; exact pm_addc _ _ (1) rfl (by omega) (by omega)
              refine pq_goto ?_
              exact ih4 m8 m9 (by omega) (by omega)
            · skip
              refine pq_iconst (pq_goto ?_)
              refine hC.1 5 48 _ _ rfl _ _ _ _ _ ?_
              refine pq_iadd ?_
              intro m10 em_48
              try have e10 : m10.toInt = (z4_22).toInt + (1) := by rw [em_48]; exact pm_addc _ _ (1) rfl (by omega) (by omega)
              refine pq_istore [some (.ref h), some (.int x1), some (.int x2), some (.int x3), some (.int m10), some (.int z5_22)] rfl (pq_iinc (fun zm_9 => [some (.ref h), some (.int x1), some (.int x2), some (.int x3), some (.int m10), some (.int zm_9)]) rfl (fun _ => rfl) ?_)
              intro m11 em_51
              try have e11 : m11.toInt = (z5_22).toInt + (1) := by rw [em_51]; exact pm_addc _ _ (1) rfl (by omega) (by omega)
              refine pq_goto ?_
              exact ih4 m10 m11 (by omega) (by omega)
      exact lp3 (200 - (0 : Int32).toInt).toNat.succ (0 : Int32) (0 : Int32) (by omega) (by omega)
    · skip
      refine pq_nil ?_
      refine hC.1 1 14 _ _ rfl _ _ _ _ _ ?_
      have km1 : (-1 : Int32).toInt = -1 := rfl
      refine pq_iconst (pq_iret ?_)
      exact ⟨rfl, fun e9 => absurd e9 (by decide), rfl, (-1 : Int32), rfl, rfl, by exact True.intro⟩
  · skip
    have k0 : (0 : Int32).toInt = 0 := rfl
    refine pq_id1 (pq_icond_eq ?_)
    refine And.intro (fun _ => ?_) (fun c9 => absurd c9 (by decide))
    refine hC.1 1 14 _ _ rfl _ _ _ _ _ ?_
    have km1 : (-1 : Int32).toInt = -1 := rfl
    refine pq_iconst (pq_iret ?_)
    exact ⟨rfl, fun e9 => absurd e9 (by decide), rfl, (-1 : Int32), rfl, rfl, by exact True.intro⟩

set_option maxRecDepth 100000 in
set_option maxHeartbeats 2000000 in
theorem c_X11_tally (D : md_D h q) (v : Nat → Int32) (f : Nat → Nat → Int32) (hv : md_V v) (hf : md_F f) (x1 : Int32) (x2 : Int32) (x3 : Int32)  : pm_Mt l g 215 1 0 0 [.ref h, .int x1, .int x2, .int x3] (md A0 g h q v f) (md_Qp (md A0 g h q v f) (fun r => True)) := by
  refine mt_X11_tally rfl (fun J hC => ?_)
  have hv9 := hv
  unfold md_V at hv9
  have rg_x1 := pm_rng x1
  have rg_x2 := pm_rng x2
  have rg_x3 := pm_rng x3
  show J 0 [some (.ref h), some (.int x1), some (.int x2), some (.int x3), none, none] [] (md A0 g h q v f) 0 0
  refine hC.1 0 0 _ _ rfl _ _ _ _ _ ?_
  refine pq_aload_n0 (pq_iload_n1 (pq_iload_n2 (pq_iv2_11 ?_)))
  refine And.intro (Exists.intro _ md_o) (Exists.intro _ (Exists.intro _ (Exists.intro _ (Exists.intro _ (And.intro (c_X11_isSpan D v f hv hf x1 x2 ) (And.intro rfl (fun r9 A9 h9 => ?_)))))))
  rcases h9 with ⟨y1, rfl, rfl, ⟨rfl, by1⟩ | ⟨rfl, by1⟩⟩
  · skip
    have k1 : (1 : Int32).toInt = 1 := rfl
    refine pq_id1 (pq_icond_eq ?_)
    refine And.intro (fun c9 => absurd c9 (by decide)) (fun _ => ?_)
    refine pq_iload_n3 (pq_iconst (pq_icmp_ge ?_))
    refine And.intro (fun c2 => ?_) (fun c2 => ?_)
    · skip
      refine hC.1 2 16 _ _ rfl _ _ _ _ _ ?_
      have k0 : (0 : Int32).toInt = 0 := rfl
      refine pq_iconst (pq_istore [some (.ref h), some (.int x1), some (.int x2), some (.int x3), some (.int (0 : Int32)), none] rfl (pq_iconst (pq_istore [some (.ref h), some (.int x1), some (.int x2), some (.int x3), some (.int (0 : Int32)), some (.int (0 : Int32))] rfl (pq_nil ?_))))
      have lp3 : ∀ (n : Nat) (z4_22 : Int32) (z5_22 : Int32), (0 ≤ z5_22.toInt ∧ z5_22.toInt ≤ 24) → 200 - z5_22.toInt < (n : Int) → J 22 [some (.ref h), some (.int x1), some (.int x2), some (.int x3), some (.int z4_22), some (.int z5_22)] [] (md A0 g h q v f) 0 0 := by
        intro n
        induction n with
        | zero =>
          intro z4_22 z5_22 j0_22 j1_22
          omega
        | succ n ih4 =>
          intro z4_22 z5_22 j0_22 j1_22
          refine hC.1 3 22 _ _ rfl _ _ _ _ _ ?_
          refine pq_iload5 ?_
          have k24 : (24 : Int32).toInt = 24 := rfl
          refine pq_bipush (pq_icmp_ge ?_)
          refine And.intro (fun c5 => ?_) (fun c5 => ?_)
          · skip
            refine hC.1 6 57 _ _ rfl _ _ _ _ _ ?_
            refine pq_iload4 (pq_iret ?_)
            exact ⟨rfl, fun e9 => absurd e9 (by decide), rfl, z4_22, rfl, rfl, by exact True.intro⟩
          · skip
            refine pq_iload4 (pq_aload_n0 (pq_iload_n1 (pq_iload_n2 (pq_iload5 (pq_iv3_11 ?_)))))
            refine And.intro (Exists.intro _ md_o) (Exists.intro _ (Exists.intro _ (Exists.intro _ (Exists.intro _ (And.intro (c_X11_timesIn D v f hv hf x1 x2 z5_22 (by omega) (by omega)) (And.intro rfl (fun r9 A9 h9 => ?_)))))))
            obtain ⟨y6, rfl, rfl, by6⟩ := h9
            refine pq_id1 (pq_iload_n3 (pq_icmp_ne ?_))
            refine And.intro (fun c7 => ?_) (fun c7 => ?_)
            · skip
              have dc7 := pm_neI c7
              refine hC.1 4 47 _ _ rfl _ _ _ _ _ ?_
              refine pq_iconst (pq_nil ?_)
              refine hC.1 5 48 _ _ rfl _ _ _ _ _ ?_
              refine pq_iadd ?_
              intro m8 em_48
              try have e8 : m8.toInt = (z4_22).toInt + (0) := by rw [em_48]; exact pm_addc _ _ (0) rfl (by omega) (by omega)
              refine pq_istore [some (.ref h), some (.int x1), some (.int x2), some (.int x3), some (.int m8), some (.int z5_22)] rfl (pq_iinc (fun zm_9 => [some (.ref h), some (.int x1), some (.int x2), some (.int x3), some (.int m8), some (.int zm_9)]) rfl (fun _ => rfl) ?_)
              intro m9 em_51
              try have e9 : m9.toInt = (z5_22).toInt + (1) := by rw [em_51]; exact pm_addc _ _ (1) rfl (by omega) (by omega)
              refine pq_goto ?_
              exact ih4 m8 m9 (by omega) (by omega)
            · skip
              have dc7 : (y6).toInt = (x3 : Int32).toInt := congrArg Int32.toInt c7
              refine pq_iconst (pq_goto ?_)
              refine hC.1 5 48 _ _ rfl _ _ _ _ _ ?_
              refine pq_iadd ?_
              intro m10 em_48
              try have e10 : m10.toInt = (z4_22).toInt + (1) := by rw [em_48]; exact pm_addc _ _ (1) rfl (by omega) (by omega)
              refine pq_istore [some (.ref h), some (.int x1), some (.int x2), some (.int x3), some (.int m10), some (.int z5_22)] rfl (pq_iinc (fun zm_9 => [some (.ref h), some (.int x1), some (.int x2), some (.int x3), some (.int m10), some (.int zm_9)]) rfl (fun _ => rfl) ?_)
              intro m11 em_51
              try have e11 : m11.toInt = (z5_22).toInt + (1) := by rw [em_51]; exact pm_addc _ _ (1) rfl (by omega) (by omega)
              refine pq_goto ?_
              exact ih4 m10 m11 (by omega) (by omega)
      exact lp3 (200 - (0 : Int32).toInt).toNat.succ (0 : Int32) (0 : Int32) (by omega) (by omega)
    · skip
      refine pq_nil ?_
      refine hC.1 1 14 _ _ rfl _ _ _ _ _ ?_
      have km1 : (-1 : Int32).toInt = -1 := rfl
      refine pq_iconst (pq_iret ?_)
      exact ⟨rfl, fun e9 => absurd e9 (by decide), rfl, (-1 : Int32), rfl, rfl, by exact True.intro⟩
  · skip
    have k0 : (0 : Int32).toInt = 0 := rfl
    refine pq_id1 (pq_icond_eq ?_)
    refine And.intro (fun _ => ?_) (fun c9 => absurd c9 (by decide))
    refine hC.1 1 14 _ _ rfl _ _ _ _ _ ?_
    have km1 : (-1 : Int32).toInt = -1 := rfl
    refine pq_iconst (pq_iret ?_)
    exact ⟨rfl, fun e9 => absurd e9 (by decide), rfl, (-1 : Int32), rfl, rfl, by exact True.intro⟩

set_option maxRecDepth 100000 in
set_option maxHeartbeats 2000000 in
theorem c_X11_major (D : md_D h q) (v : Nat → Int32) (f : Nat → Nat → Int32) (hv : md_V v) (hf : md_F f) (x1 : Int32) (x2 : Int32)  : pm_Mt l g 216 1 0 0 [.ref h, .int x1, .int x2] (md A0 g h q v f) (md_Qp (md A0 g h q v f) (fun r => True)) := by
  refine mt_X11_major rfl (fun J hC => ?_)
  have hv9 := hv
  unfold md_V at hv9
  have rg_x1 := pm_rng x1
  have rg_x2 := pm_rng x2
  show J 0 [some (.ref h), some (.int x1), some (.int x2), none] [] (md A0 g h q v f) 0 0
  refine hC.1 0 0 _ _ rfl _ _ _ _ _ ?_
  refine pq_aload_n0 (pq_iload_n1 (pq_iload_n2 (pq_iv2_11 ?_)))
  refine And.intro (Exists.intro _ md_o) (Exists.intro _ (Exists.intro _ (Exists.intro _ (Exists.intro _ (And.intro (c_X11_isSpan D v f hv hf x1 x2 ) (And.intro rfl (fun r9 A9 h9 => ?_)))))))
  rcases h9 with ⟨y1, rfl, rfl, ⟨rfl, by1⟩ | ⟨rfl, by1⟩⟩
  · skip
    have k1 : (1 : Int32).toInt = 1 := rfl
    refine pq_id1 (pq_icond_ne ?_)
    refine And.intro (fun _ => ?_) (fun c9 => absurd c9 (by decide))
    refine hC.1 1 11 _ _ rfl _ _ _ _ _ ?_
    have k0 : (0 : Int32).toInt = 0 := rfl
    refine pq_iconst (pq_istore_n [some (.ref h), some (.int x1), some (.int x2), some (.int (0 : Int32))] rfl (pq_nil ?_))
    have lp2 : ∀ (n : Nat) (z3_13 : Int32), (0 ≤ z3_13.toInt ∧ z3_13.toInt ≤ 24) → 200 - z3_13.toInt < (n : Int) → J 13 [some (.ref h), some (.int x1), some (.int x2), some (.int z3_13)] [] (md A0 g h q v f) 0 0 := by
      intro n
      induction n with
      | zero =>
        intro z3_13 j0_13 j1_13
        omega
      | succ n ih3 =>
        intro z3_13 j0_13 j1_13
        refine hC.1 2 13 _ _ rfl _ _ _ _ _ ?_
        refine pq_iload_n3 ?_
        have k24 : (24 : Int32).toInt = 24 := rfl
        refine pq_bipush (pq_icmp_ge ?_)
        refine And.intro (fun c4 => ?_) (fun c4 => ?_)
        · skip
          refine hC.1 4 44 _ _ rfl _ _ _ _ _ ?_
          have km1 : (-1 : Int32).toInt = -1 := rfl
          refine pq_iconst (pq_iret ?_)
          exact ⟨rfl, fun e9 => absurd e9 (by decide), rfl, (-1 : Int32), rfl, rfl, by exact True.intro⟩
        · skip
          have k2 : (2 : Int32).toInt = 2 := rfl
          refine pq_iconst (pq_aload_n0 (pq_iload_n1 (pq_iload_n2 (pq_iload_n3 (pq_iv3_11 ?_)))))
          refine And.intro (Exists.intro _ md_o) (Exists.intro _ (Exists.intro _ (Exists.intro _ (Exists.intro _ (And.intro (c_X11_timesIn D v f hv hf x1 x2 z3_13 (by omega) (by omega)) (And.intro rfl (fun r9 A9 h9 => ?_)))))))
          obtain ⟨y5, rfl, rfl, by5⟩ := h9
          refine pq_id1 (pq_imul ?_)
          intro m6 em_27
          try have e6 : m6.toInt = (2) * (y5).toInt := by rw [em_27]; exact pm_mulk _ _ (2) rfl (by omega) (by omega)
          refine pq_iload_n2 (pq_iload_n1 (pq_isub ?_))
          intro m7 em_30
          try have e7 : m7.toInt = (x2).toInt - (x1).toInt := by rw [em_30]; exact pm_sub _ _ (by omega) (by omega)
          refine pq_iconst (pq_iadd ?_)
          intro m8 em_32
          try have e8 : m8.toInt = (m7).toInt + (1) := by rw [em_32]; exact pm_addc _ _ (1) rfl (by omega) (by omega)
          refine pq_icmp_le ?_
          refine And.intro (fun c9 => ?_) (fun c9 => ?_)
          · skip
            refine hC.1 3 38 _ _ rfl _ _ _ _ _ ?_
            refine pq_iinc (fun zm_9 => [some (.ref h), some (.int x1), some (.int x2), some (.int zm_9)]) rfl (fun _ => rfl) ?_
            intro m10 em_38
            try have e10 : m10.toInt = (z3_13).toInt + (1) := by rw [em_38]; exact pm_addc _ _ (1) rfl (by omega) (by omega)
            refine pq_goto ?_
            exact ih3 m10 (by omega) (by omega)
          · skip
            refine pq_iload_n3 (pq_iret ?_)
            exact ⟨rfl, fun e9 => absurd e9 (by decide), rfl, z3_13, rfl, rfl, by exact True.intro⟩
    exact lp2 (200 - (0 : Int32).toInt).toNat.succ (0 : Int32) (by omega) (by omega)
  · skip
    have k0 : (0 : Int32).toInt = 0 := rfl
    refine pq_id1 (pq_icond_ne ?_)
    refine And.intro (fun c9 => absurd c9 (by decide)) (fun _ => ?_)
    have km1 : (-1 : Int32).toInt = -1 := rfl
    refine pq_iconst (pq_iret ?_)
    exact ⟨rfl, fun e9 => absurd e9 (by decide), rfl, (-1 : Int32), rfl, rfl, by exact True.intro⟩

set_option maxRecDepth 100000 in
set_option maxHeartbeats 2000000 in
theorem c_X11_at (D : md_D h q) (v : Nat → Int32) (f : Nat → Nat → Int32) (hv : md_V v) (hf : md_F f) (x1 : Int32) (x2 : Int32)  : pm_Mt l g 195 2 0 0 [.ref h, .int x1, .int x2] (md A0 g h q v f) (md_Qp (md A0 g h q v f) (fun r => True)) := by
  refine mt_X11_at rfl (fun J hC => ?_)
  have hv9 := hv
  unfold md_V at hv9
  have rg_x1 := pm_rng x1
  have rg_x2 := pm_rng x2
  have lt9 := nextEq_lt (f 0) (f 0 x1.toInt.toNat) (x1.toInt + 1).toNat ((v 0).toInt - (x1.toInt + 1)).toNat
  show J 0 [some (.ref h), some (.int x1), some (.int x2)] [] (md A0 g h q v f) 0 0
  refine hC.1 0 0 _ _ rfl _ _ _ _ _ ?_
  refine pq_aload_n0 (pq_iload_n1 (pq_iv1_11 ?_))
  refine And.intro (Exists.intro _ md_o) (Exists.intro _ (Exists.intro _ (Exists.intro _ (Exists.intro _ (And.intro (c_X11_isPlace D v f hv hf x1 ) (And.intro rfl (fun r9 A9 h9 => ?_)))))))
  rcases h9 with ⟨y1, rfl, rfl, ⟨rfl, by1⟩ | ⟨rfl, by1⟩⟩
  · skip
    have k1 : (1 : Int32).toInt = 1 := rfl
    refine pq_id1 (pq_icond_ne ?_)
    refine And.intro (fun _ => ?_) (fun c9 => absurd c9 (by decide))
    refine hC.1 1 10 _ _ rfl _ _ _ _ _ ?_
    refine pq_iload_n2 (pq_ts ?_)
    refine pm_swc 4 rfl (by decide) ?_ ?_
    · intro _
      refine hC.1 8 83 _ _ rfl _ _ _ _ _ ?_
      have km1 : (-1 : Int32).toInt = -1 := rfl
      refine pq_iconst (pq_iret ?_)
      exact ⟨rfl, fun e9 => absurd e9 (by decide), rfl, (-1 : Int32), rfl, rfl, by exact True.intro⟩
    · intro i9 hi9 he9
      rcases (show i9 = 0 ∨ i9 = 1 ∨ i9 = 2 ∨ i9 = 3 by omega) with rfl | rfl | rfl | rfl
      · skip
        refine hC.1 2 40 _ _ rfl _ _ _ _ _ ?_
        refine pq_aload_n0 (qgm_colours (pq_iload_n1 (qlm_colours D (by omega) ?_)))
        have w4 : (0 : Int) ≤ (f 0 (x1).toInt.toNat).toInt ∧ (f 0 (x1).toInt.toNat).toInt ≤ (23 : Int) := hf 0 _
        refine pq_iret ?_
        exact ⟨rfl, fun e9 => absurd e9 (by decide), rfl, (f 0 (x1).toInt.toNat), rfl, rfl, by exact True.intro⟩
      · skip
        refine hC.1 3 47 _ _ rfl _ _ _ _ _ ?_
        refine pq_aload_n0 (qgm_names (pq_iload_n1 (qlm_names D (by omega) (pq_iret ?_))))
        exact ⟨rfl, fun e9 => absurd e9 (by decide), rfl, (f 1 (x1).toInt.toNat), rfl, rfl, by exact True.intro⟩
      · skip
        refine hC.1 4 54 _ _ rfl _ _ _ _ _ ?_
        refine pq_aload_n0 (pq_iload_n1 (pq_iv1_11 ?_))
        refine And.intro (Exists.intro _ md_o) (Exists.intro _ (Exists.intro _ (Exists.intro _ (Exists.intro _ (And.intro (c_X11_bondOf D v f hv hf x1 (by omega)) (And.intro rfl (fun r9 A9 h9 => ?_)))))))
        obtain ⟨y5, rfl, rfl, by5⟩ := h9
        refine pq_id1 (pq_iret ?_)
        exact ⟨rfl, fun e9 => absurd e9 (by decide), rfl, y5, rfl, rfl, by exact True.intro⟩
      · skip
        refine hC.1 5 60 _ _ rfl _ _ _ _ _ ?_
        refine pq_aload_n0 (pq_iload_n1 (pq_iv1_11 ?_))
        refine And.intro (Exists.intro _ md_o) (Exists.intro _ (Exists.intro _ (Exists.intro _ (Exists.intro _ (And.intro (c_X11_behind D v f hv hf x1 (by omega)) (And.intro rfl (fun r9 A9 h9 => ?_)))))))
        obtain ⟨y6, rfl, rfl, by6⟩ := h9
        refine pq_id1 (pq_icond_ge ?_)
        refine And.intro (fun c7 => ?_) (fun c7 => ?_)
        · skip
          refine hC.1 6 72 _ _ rfl _ _ _ _ _ ?_
          refine pq_aload_n0 (qgm_names (pq_aload_n0 (pq_iload_n1 (pq_iv1_11 ?_))))
          refine And.intro (Exists.intro _ md_o) (Exists.intro _ (Exists.intro _ (Exists.intro _ (Exists.intro _ (And.intro (c_X11_behind D v f hv hf x1 (by omega)) (And.intro rfl (fun r9 A9 h9 => ?_)))))))
          obtain ⟨y8, rfl, rfl, by8⟩ := h9
          refine pq_id1 (qlm_names D (by omega) (pq_nil ?_))
          refine hC.1 7 82 _ _ rfl _ _ _ _ _ ?_
          refine pq_iret ?_
          exact ⟨rfl, fun e9 => absurd e9 (by decide), rfl, (f 1 (y8).toInt.toNat), rfl, rfl, by exact True.intro⟩
        · skip
          have km1 : (-1 : Int32).toInt = -1 := rfl
          refine pq_iconst (pq_goto ?_)
          refine hC.1 7 82 _ _ rfl _ _ _ _ _ ?_
          refine pq_iret ?_
          exact ⟨rfl, fun e9 => absurd e9 (by decide), rfl, (-1 : Int32), rfl, rfl, by exact True.intro⟩
  · skip
    have k0 : (0 : Int32).toInt = 0 := rfl
    refine pq_id1 (pq_icond_ne ?_)
    refine And.intro (fun c9 => absurd c9 (by decide)) (fun _ => ?_)
    have km1 : (-1 : Int32).toInt = -1 := rfl
    refine pq_iconst (pq_iret ?_)
    exact ⟨rfl, fun e9 => absurd e9 (by decide), rfl, (-1 : Int32), rfl, rfl, by exact True.intro⟩

set_option maxRecDepth 100000 in
set_option maxHeartbeats 2000000 in
theorem c_X11_colour (D : md_D h q) (v : Nat → Int32) (f : Nat → Nat → Int32) (hv : md_V v) (hf : md_F f) (x1 : Int32) (x2 : Int32)  : pm_Mt l g 199 2 0 0 [.ref h, .int x1, .int x2] (md A0 g h q v f) (md_Qp (md A0 g h q v f) (fun r => True)) := by
  refine mt_X11_colour rfl (fun J hC => ?_)
  have hv9 := hv
  unfold md_V at hv9
  have rg_x1 := pm_rng x1
  have rg_x2 := pm_rng x2
  show J 0 [some (.ref h), some (.int x1), some (.int x2)] [] (md A0 g h q v f) 0 0
  refine hC.1 0 0 _ _ rfl _ _ _ _ _ ?_
  refine pq_iload_n1 (pq_is1 ?_)
  refine Exists.intro _ (Exists.intro _ (Exists.intro _ (Exists.intro _ (And.intro (c_X11_isColour (md A0 g h q v f) x1 ) (And.intro rfl (fun r9 A9 h9 => ?_))))))
  rcases h9 with ⟨y1, rfl, rfl, ⟨rfl, by1⟩ | ⟨rfl, by1⟩⟩
  · skip
    have k1 : (1 : Int32).toInt = 1 := rfl
    refine pq_id1 (pq_icond_ne ?_)
    refine And.intro (fun _ => ?_) (fun c9 => absurd c9 (by decide))
    refine hC.1 1 9 _ _ rfl _ _ _ _ _ ?_
    refine pq_iload_n2 (pq_ts ?_)
    refine pm_swc 5 rfl (by decide) ?_ ?_
    · intro _
      refine hC.1 7 82 _ _ rfl _ _ _ _ _ ?_
      have km1 : (-1 : Int32).toInt = -1 := rfl
      refine pq_iconst (pq_iret ?_)
      exact ⟨rfl, fun e9 => absurd e9 (by decide), rfl, (-1 : Int32), rfl, rfl, by exact True.intro⟩
    · intro i9 hi9 he9
      rcases (show i9 = 0 ∨ i9 = 1 ∨ i9 = 2 ∨ i9 = 3 ∨ i9 = 4 by omega) with rfl | rfl | rfl | rfl | rfl
      · skip
        refine hC.1 2 44 _ _ rfl _ _ _ _ _ ?_
        refine pq_aload_n0 ?_
        have k0 : (0 : Int32).toInt = 0 := rfl
        refine pq_iconst (pq_aload_n0 (qgm_many (pq_iconst (pq_isub ?_))))
        intro m4 em_51
        try have e4 : m4.toInt = ((v 0)).toInt - (1) := by rw [em_51]; exact pm_subc _ _ (1) rfl (by omega) (by omega)
        refine pq_iload_n1 (pq_iv3_11 ?_)
        refine And.intro (Exists.intro _ md_o) (Exists.intro _ (Exists.intro _ (Exists.intro _ (Exists.intro _ (And.intro (c_X11_timesIn D v f hv hf (0 : Int32) m4 x1 (by omega) (by omega)) (And.intro rfl (fun r9 A9 h9 => ?_)))))))
        obtain ⟨y5, rfl, rfl, by5⟩ := h9
        refine pq_id1 (pq_iret ?_)
        exact ⟨rfl, fun e9 => absurd e9 (by decide), rfl, y5, rfl, rfl, by exact True.intro⟩
      · skip
        refine hC.1 3 57 _ _ rfl _ _ _ _ _ ?_
        refine pq_aload_n0 (qgm_weights (pq_iload_n1 (qlm_weights D (by omega) (pq_iret ?_))))
        exact ⟨rfl, fun e9 => absurd e9 (by decide), rfl, (f 2 (x1).toInt.toNat), rfl, rfl, by exact True.intro⟩
      · skip
        refine hC.1 4 64 _ _ rfl _ _ _ _ _ ?_
        refine pq_aload_n0 (pq_iload_n1 (pq_iv1_11 ?_))
        refine And.intro (Exists.intro _ md_o) (Exists.intro _ (Exists.intro _ (Exists.intro _ (Exists.intro _ (And.intro (c_X11_first D v f hv hf x1 ) (And.intro rfl (fun r9 A9 h9 => ?_)))))))
        obtain ⟨y6, rfl, rfl, by6⟩ := h9
        refine pq_id1 (pq_iret ?_)
        exact ⟨rfl, fun e9 => absurd e9 (by decide), rfl, y6, rfl, rfl, by exact True.intro⟩
      · skip
        refine hC.1 5 70 _ _ rfl _ _ _ _ _ ?_
        refine pq_aload_n0 (pq_iload_n1 (pq_iv1_11 ?_))
        refine And.intro (Exists.intro _ md_o) (Exists.intro _ (Exists.intro _ (Exists.intro _ (Exists.intro _ (And.intro (c_X11_last D v f hv hf x1 ) (And.intro rfl (fun r9 A9 h9 => ?_)))))))
        obtain ⟨y7, rfl, rfl, by7⟩ := h9
        refine pq_id1 (pq_iret ?_)
        exact ⟨rfl, fun e9 => absurd e9 (by decide), rfl, y7, rfl, rfl, by exact True.intro⟩
      · skip
        refine hC.1 6 76 _ _ rfl _ _ _ _ _ ?_
        refine pq_aload_n0 (pq_iload_n1 (pq_iv1_11 ?_))
        refine And.intro (Exists.intro _ md_o) (Exists.intro _ (Exists.intro _ (Exists.intro _ (Exists.intro _ (And.intro (c_X11_widest D v f hv hf x1 ) (And.intro rfl (fun r9 A9 h9 => ?_)))))))
        obtain ⟨y8, rfl, rfl, by8⟩ := h9
        refine pq_id1 (pq_iret ?_)
        exact ⟨rfl, fun e9 => absurd e9 (by decide), rfl, y8, rfl, rfl, by exact True.intro⟩
  · skip
    have k0 : (0 : Int32).toInt = 0 := rfl
    refine pq_id1 (pq_icond_ne ?_)
    refine And.intro (fun c9 => absurd c9 (by decide)) (fun _ => ?_)
    have km1 : (-1 : Int32).toInt = -1 := rfl
    refine pq_iconst (pq_iret ?_)
    exact ⟨rfl, fun e9 => absurd e9 (by decide), rfl, (-1 : Int32), rfl, rfl, by exact True.intro⟩

set_option maxRecDepth 100000 in
set_option maxHeartbeats 2000000 in
theorem c_X11_about (D : md_D h q) (v : Nat → Int32) (f : Nat → Nat → Int32) (hv : md_V v) (hf : md_F f) (x1 : Int32)  : pm_Mt l g 205 1 0 0 [.ref h, .int x1] (md A0 g h q v f) (md_Qp (md A0 g h q v f) (fun r => True)) := by
  refine mt_X11_about rfl (fun J hC => ?_)
  have hv9 := hv
  unfold md_V at hv9
  have rg_x1 := pm_rng x1
  show J 0 [some (.ref h), some (.int x1)] [] (md A0 g h q v f) 0 0
  refine hC.1 0 0 _ _ rfl _ _ _ _ _ ?_
  refine pq_iload_n1 (pq_ts ?_)
  refine pm_swc 6 rfl (by decide) ?_ ?_
  · intro _
    refine hC.1 7 80 _ _ rfl _ _ _ _ _ ?_
    have km1 : (-1 : Int32).toInt = -1 := rfl
    refine pq_iconst (pq_iret ?_)
    exact ⟨rfl, fun e9 => absurd e9 (by decide), rfl, (-1 : Int32), rfl, rfl, by exact True.intro⟩
  · intro i9 hi9 he9
    rcases (show i9 = 0 ∨ i9 = 1 ∨ i9 = 2 ∨ i9 = 3 ∨ i9 = 4 ∨ i9 = 5 by omega) with rfl | rfl | rfl | rfl | rfl | rfl
    · skip
      refine hC.1 1 40 _ _ rfl _ _ _ _ _ ?_
      refine pq_aload_n0 (qgm_many (pq_iret ?_))
      exact ⟨rfl, fun e9 => absurd e9 (by decide), rfl, (v 0), rfl, rfl, by exact True.intro⟩
    · skip
      refine hC.1 2 45 _ _ rfl _ _ _ _ _ ?_
      refine pq_aload_n0 ?_
      have k0 : (0 : Int32).toInt = 0 := rfl
      refine pq_iconst (pq_aload_n0 (qgm_many ?_))
      have k1 : (1 : Int32).toInt = 1 := rfl
      refine pq_iconst (pq_isub ?_)
      intro m3 em_52
      try have e3 : m3.toInt = ((v 0)).toInt - (1) := by rw [em_52]; exact pm_subc _ _ (1) rfl (by omega) (by omega)
      refine pq_iv2_11 ?_
      refine And.intro (Exists.intro _ md_o) (Exists.intro _ (Exists.intro _ (Exists.intro _ (Exists.intro _ (And.intro (c_X11_setOf D v f hv hf (0 : Int32) m3 (by omega) (by omega)) (And.intro rfl (fun r9 A9 h9 => ?_)))))))
      obtain ⟨y4, rfl, rfl, by4⟩ := h9
      refine pq_id1 (pq_is1 ?_)
      refine Exists.intro _ (Exists.intro _ (Exists.intro _ (Exists.intro _ (And.intro (c_X11_bits (md A0 g h q v f) y4 ) (And.intro rfl (fun r9 A9 h9 => ?_))))))
      obtain ⟨y5, rfl, rfl, by5⟩ := h9
      refine pq_id1 (pq_iret ?_)
      exact ⟨rfl, fun e9 => absurd e9 (by decide), rfl, y5, rfl, rfl, by exact True.intro⟩
    · skip
      refine hC.1 3 60 _ _ rfl _ _ _ _ _ ?_
      refine pq_aload_n0 (qgm_given (pq_iret ?_))
      exact ⟨rfl, fun e9 => absurd e9 (by decide), rfl, (v 3), rfl, rfl, by exact True.intro⟩
    · skip
      refine hC.1 4 65 _ _ rfl _ _ _ _ _ ?_
      refine pq_aload_n0 (qgm_edits (pq_iret ?_))
      exact ⟨rfl, fun e9 => absurd e9 (by decide), rfl, (v 4), rfl, rfl, by exact True.intro⟩
    · skip
      refine hC.1 5 70 _ _ rfl _ _ _ _ _ ?_
      refine pq_aload_n0 (qgm_touchedAll (pq_iret ?_))
      exact ⟨rfl, fun e9 => absurd e9 (by decide), rfl, (v 5), rfl, rfl, by exact True.intro⟩
    · skip
      refine hC.1 6 75 _ _ rfl _ _ _ _ _ ?_
      refine pq_aload_n0 (qgm_askedMany (pq_iret ?_))
      exact ⟨rfl, fun e9 => absurd e9 (by decide), rfl, (v 6), rfl, rfl, by exact True.intro⟩

set_option maxRecDepth 100000 in
set_option maxHeartbeats 2000000 in
theorem c_X11_hasRoom (D : md_D h q) (v : Nat → Int32) (f : Nat → Nat → Int32) (hv : md_V v) (hf : md_F f) (x1 : Int32) (p0 : -1000000 ≤ x1.toInt ∧ x1.toInt ≤ 1000000) : pm_Mt l g 184 0 0 0 [.ref h, .int x1] (md A0 g h q v f) (md_Qp (md A0 g h q v f) (fun r => (r = 1 ∧ ((v 0).toInt + x1.toInt ≤ 160 ∧ (v 3).toInt + x1.toInt ≤ 10000)) ∨ (r = 0 ∧ (¬ ((v 0).toInt + x1.toInt ≤ 160 ∧ (v 3).toInt + x1.toInt ≤ 10000))))) := by
  refine mt_X11_hasRoom rfl (fun J hC => ?_)
  have hv9 := hv
  unfold md_V at hv9
  have rg_x1 := pm_rng x1
  show J 0 [some (.ref h), some (.int x1)] [] (md A0 g h q v f) 0 0
  refine hC.1 0 0 _ _ rfl _ _ _ _ _ ?_
  refine pq_aload_n0 (qgm_many (pq_iload_n1 (pq_iadd ?_)))
  intro m1 em_5
  try have e1 : m1.toInt = ((v 0)).toInt + (x1).toInt := by rw [em_5]; exact pm_add _ _ (by omega) (by omega)
  have k160 : (160 : Int32).toInt = 160 := rfl
  refine pq_sipush (pq_icmp_gt ?_)
  refine And.intro (fun c2 => ?_) (fun c2 => ?_)
  · skip
    refine hC.1 1 28 _ _ rfl _ _ _ _ _ ?_
    have k0 : (0 : Int32).toInt = 0 := rfl
    refine pq_iconst (pq_nil ?_)
    refine hC.1 2 29 _ _ rfl _ _ _ _ _ ?_
    refine pq_iret ?_
    exact ⟨rfl, fun _ => (by decide), rfl, (0 : Int32), rfl, rfl, Or.inr ⟨rfl, by first | omega | (dsimp only; omega) | trivial⟩⟩
  · skip
    refine pq_aload_n0 (qgm_given (pq_iload_n1 (pq_iadd ?_)))
    intro m3 em_17
    try have e3 : m3.toInt = ((v 3)).toInt + (x1).toInt := by rw [em_17]; exact pm_add _ _ (by omega) (by omega)
    have k10000 : (10000 : Int32).toInt = 10000 := rfl
    refine pq_sipush (pq_icmp_gt ?_)
    refine And.intro (fun c4 => ?_) (fun c4 => ?_)
    · skip
      refine hC.1 1 28 _ _ rfl _ _ _ _ _ ?_
      have k0 : (0 : Int32).toInt = 0 := rfl
      refine pq_iconst (pq_nil ?_)
      refine hC.1 2 29 _ _ rfl _ _ _ _ _ ?_
      refine pq_iret ?_
      exact ⟨rfl, fun _ => (by decide), rfl, (0 : Int32), rfl, rfl, Or.inr ⟨rfl, by first | omega | (dsimp only; omega) | trivial⟩⟩
    · skip
      have k1 : (1 : Int32).toInt = 1 := rfl
      refine pq_iconst (pq_goto ?_)
      refine hC.1 2 29 _ _ rfl _ _ _ _ _ ?_
      refine pq_iret ?_
      exact ⟨rfl, fun _ => (by decide), rfl, (1 : Int32), rfl, rfl, Or.inl ⟨rfl, by first | omega | (dsimp only; omega) | trivial⟩⟩

set_option maxRecDepth 100000 in
set_option maxHeartbeats 2000000 in
theorem c_X11_reportKey (D : md_D h q) (v : Nat → Int32) (f : Nat → Nat → Int32) (hv : md_V v) (hf : md_F f) (x1 : Int32) (p0 : 0 ≤ x1.toInt ∧ x1.toInt < 160) : pm_Mt l g 219 1 0 0 [.ref h, .int x1] (md A0 g h q v f) (md_Qp (md A0 g h q v f) (fun r => True)) := by
  refine mt_X11_reportKey rfl (fun J hC => ?_)
  have hv9 := hv
  unfold md_V at hv9
  have rg_x1 := pm_rng x1
  show J 0 [some (.ref h), some (.int x1)] [] (md A0 g h q v f) 0 0
  refine hC.1 0 0 _ _ rfl _ _ _ _ _ ?_
  refine pq_aload_n0 (pq_iload_n1 (pq_iv1_11 ?_))
  refine And.intro (Exists.intro _ md_o) (Exists.intro _ (Exists.intro _ (Exists.intro _ (Exists.intro _ (And.intro (c_X11_ahead D v f hv hf x1 (by omega)) (And.intro rfl (fun r9 A9 h9 => ?_)))))))
  obtain ⟨y1, rfl, rfl, by1⟩ := h9
  refine pq_id1 (pq_icond_ge ?_)
  refine And.intro (fun c2 => ?_) (fun c2 => ?_)
  · skip
    refine hC.1 1 16 _ _ rfl _ _ _ _ _ ?_
    refine pq_aload_n0 (pq_iload_n1 (pq_iv1_11 ?_))
    refine And.intro (Exists.intro _ md_o) (Exists.intro _ (Exists.intro _ (Exists.intro _ (Exists.intro _ (And.intro (c_X11_ahead D v f hv hf x1 (by omega)) (And.intro rfl (fun r9 A9 h9 => ?_)))))))
    obtain ⟨y3, rfl, rfl, by3⟩ := h9
    refine pq_id1 (pq_nil ?_)
    refine hC.1 2 21 _ _ rfl _ _ _ _ _ ?_
    refine pq_iret ?_
    exact ⟨rfl, fun e9 => absurd e9 (by decide), rfl, y3, rfl, rfl, by exact True.intro⟩
  · skip
    refine pq_iload_n1 ?_
    have k160 : (160 : Int32).toInt = 160 := rfl
    refine pq_sipush (pq_isub ?_)
    intro m4 em_12
    try have e4 : m4.toInt = (x1).toInt - (160) := by rw [em_12]; exact pm_subc _ _ (160) rfl (by omega) (by omega)
    refine pq_goto ?_
    refine hC.1 2 21 _ _ rfl _ _ _ _ _ ?_
    refine pq_iret ?_
    exact ⟨rfl, fun e9 => absurd e9 (by decide), rfl, m4, rfl, rfl, by exact True.intro⟩

end
end
section
section
variable {l : Launch} {g : pm_G} {A0 : pm_H} {h : Nat} {q : Nat → Nat}
set_option maxRecDepth 100000 in
set_option maxHeartbeats 2000000 in
theorem c_X11_reported (D : md_D h q) (v : Nat → Int32) (f : Nat → Nat → Int32) (hv : md_V v) (hf : md_F f) (x1 : Int32) (x2 : Int32) (x3 : Int32) (p0 : 0 ≤ x1.toInt ∧ x1.toInt ≤ x2.toInt ∧ x2.toInt < (v 0).toInt) (p1 : 0 ≤ x3.toInt ∧ x3.toInt ≤ 24) : pm_Mt l g 218 2 0 0 [.ref h, .int x1, .int x2, .int x3] (md A0 g h q v f) (md_Qp (md A0 g h q v f) (fun r => -1 ≤ r.toInt ∧ r.toInt < (v 0).toInt)) := by
  refine mt_X11_reported rfl (fun J hC => ?_)
  have hv9 := hv
  unfold md_V at hv9
  have rg_x1 := pm_rng x1
  have rg_x2 := pm_rng x2
  have rg_x3 := pm_rng x3
  show J 0 [some (.ref h), some (.int x1), some (.int x2), some (.int x3), none, none, none, none, none] [] (md A0 g h q v f) 0 0
  refine hC.1 0 0 _ _ rfl _ _ _ _ _ ?_
  have km268435456 : (-268435456 : Int32).toInt = -268435456 := rfl
  refine pq_ldc (pq_istore [some (.ref h), some (.int x1), some (.int x2), some (.int x3), some (.int (-268435456 : Int32)), none, none, none, none] rfl ?_)
  have km1 : (-1 : Int32).toInt = -1 := rfl
  refine pq_iconst (pq_istore [some (.ref h), some (.int x1), some (.int x2), some (.int x3), some (.int (-268435456 : Int32)), some (.int (-1 : Int32)), none, none, none] rfl ?_)
  have k0 : (0 : Int32).toInt = 0 := rfl
  refine pq_iconst (pq_istore [some (.ref h), some (.int x1), some (.int x2), some (.int x3), some (.int (-268435456 : Int32)), some (.int (-1 : Int32)), some (.int (0 : Int32)), none, none] rfl (pq_nil ?_))
  have lp1 : ∀ (n : Nat) (z4_10 : Int32) (z5_10 : Int32) (z6_10 : Int32), (0 ≤ z6_10.toInt ∧ z6_10.toInt ≤ 26) → (-1 ≤ z5_10.toInt ∧ z5_10.toInt < (v 0).toInt) → 100 - z6_10.toInt < (n : Int) → J 10 [some (.ref h), some (.int x1), some (.int x2), some (.int x3), some (.int z4_10), some (.int z5_10), some (.int z6_10), none, none] [] (md A0 g h q v f) 0 0 := by
    intro n
    induction n with
    | zero =>
      intro z4_10 z5_10 z6_10 j0_10 j1_10 j2_10
      omega
    | succ n ih2 =>
      intro z4_10 z5_10 z6_10 j0_10 j1_10 j2_10
      refine hC.1 1 10 _ _ rfl _ _ _ _ _ ?_
      refine pq_iload6 (pq_iload_n3 (pq_icmp_gt ?_))
      refine And.intro (fun c3 => ?_) (fun c3 => ?_)
      · skip
        refine hC.1 7 104 _ _ rfl _ _ _ _ _ ?_
        refine pq_iload5 (pq_iret ?_)
        exact ⟨rfl, fun e9 => absurd e9 (by decide), rfl, z5_10, rfl, rfl, by first | omega | (dsimp only; omega) | trivial⟩
      · skip
        refine pq_iconst (pq_istore [some (.ref h), some (.int x1), some (.int x2), some (.int x3), some (.int z4_10), some (.int z5_10), some (.int z6_10), some (.int (-1 : Int32)), none] rfl (pq_iload_n1 (pq_istore [some (.ref h), some (.int x1), some (.int x2), some (.int x3), some (.int z4_10), some (.int z5_10), some (.int z6_10), some (.int (-1 : Int32)), some (.int x1)] rfl (pq_nil ?_))))
        have lp4 : ∀ (n : Nat) (z7_22 : Int32) (z8_22 : Int32), (x1.toInt ≤ z8_22.toInt ∧ z8_22.toInt ≤ x2.toInt + 1) → (-1 ≤ z7_22.toInt ∧ z7_22.toInt ≤ x2.toInt) → 200 - z8_22.toInt < (n : Int) → J 22 [some (.ref h), some (.int x1), some (.int x2), some (.int x3), some (.int z4_10), some (.int z5_10), some (.int z6_10), some (.int z7_22), some (.int z8_22)] [] (md A0 g h q v f) 0 0 := by
          intro n
          induction n with
          | zero =>
            intro z7_22 z8_22 j0_22 j1_22 j2_22
            omega
          | succ n ih5 =>
            intro z7_22 z8_22 j0_22 j1_22 j2_22
            refine hC.1 2 22 _ _ rfl _ _ _ _ _ ?_
            refine pq_iload8 (pq_iload_n2 (pq_icmp_gt ?_))
            refine And.intro (fun c6 => ?_) (fun c6 => ?_)
            · skip
              refine hC.1 5 79 _ _ rfl _ _ _ _ _ ?_
              refine pq_iload7 (pq_icond_ge ?_)
              refine And.intro (fun c7 => ?_) (fun c7 => ?_)
              · skip
                refine hC.1 6 86 _ _ rfl _ _ _ _ _ ?_
                refine pq_aload_n0 (pq_iload7 (pq_iv1_11 ?_))
                refine And.intro (Exists.intro _ md_o) (Exists.intro _ (Exists.intro _ (Exists.intro _ (Exists.intro _ (And.intro (c_X11_reportKey D v f hv hf z7_22 (by omega)) (And.intro rfl (fun r9 A9 h9 => ?_)))))))
                obtain ⟨y8, rfl, rfl, by8⟩ := h9
                refine pq_id1 (pq_istore [some (.ref h), some (.int x1), some (.int x2), some (.int x3), some (.int y8), some (.int z5_10), some (.int z6_10), some (.int z7_22), some (.int z8_22)] rfl (pq_iload7 (pq_istore [some (.ref h), some (.int x1), some (.int x2), some (.int x3), some (.int y8), some (.int z7_22), some (.int z6_10), some (.int z7_22), some (.int z8_22)] rfl ?_)))
                have k1 : (1 : Int32).toInt = 1 := rfl
                refine pq_iinc (fun zm_9 => [some (.ref h), some (.int x1), some (.int x2), some (.int x3), some (.int y8), some (.int z7_22), some (.int zm_9), some (.int z7_22), some (.int z8_22)]) rfl (fun _ => rfl) ?_
                intro m9 em_98
                try have e9 : m9.toInt = (z6_10).toInt + (1) := by rw [em_98]; exact pm_addc _ _ (1) rfl (by omega) (by omega)
                refine pq_goto ?_
                exact hC.2 [false, false, false, false, false, false, false, true, true] _ _ _ _ _ _ (ih2 y8 z7_22 m9 (by omega) (by omega) (by omega))
              · skip
                refine pq_iconst (pq_iret ?_)
                exact ⟨rfl, fun e9 => absurd e9 (by decide), rfl, (-1 : Int32), rfl, rfl, by first | omega | (dsimp only; omega) | trivial⟩
            · skip
              refine pq_aload_n0 (pq_iload8 (pq_iv1_11 ?_))
              refine And.intro (Exists.intro _ md_o) (Exists.intro _ (Exists.intro _ (Exists.intro _ (Exists.intro _ (And.intro (c_X11_ahead D v f hv hf z8_22 (by omega)) (And.intro rfl (fun r9 A9 h9 => ?_)))))))
              obtain ⟨y10, rfl, rfl, by10⟩ := h9
              refine pq_id1 (pq_iload_n1 (pq_icmp_ge ?_))
              refine And.intro (fun c11 => ?_) (fun c11 => ?_)
              · skip
                refine hC.1 4 73 _ _ rfl _ _ _ _ _ ?_
                have k1 : (1 : Int32).toInt = 1 := rfl
                refine pq_iinc (fun zm_9 => [some (.ref h), some (.int x1), some (.int x2), some (.int x3), some (.int z4_10), some (.int z5_10), some (.int z6_10), some (.int z7_22), some (.int zm_9)]) rfl (fun _ => rfl) ?_
                intro m12 em_73
                try have e12 : m12.toInt = (z8_22).toInt + (1) := by rw [em_73]; exact pm_addc _ _ (1) rfl (by omega) (by omega)
                refine pq_goto ?_
                exact ih5 z7_22 m12 (by omega) (by omega) (by omega)
              · skip
                refine pq_aload_n0 (pq_iload8 (pq_iv1_11 ?_))
                refine And.intro (Exists.intro _ md_o) (Exists.intro _ (Exists.intro _ (Exists.intro _ (Exists.intro _ (And.intro (c_X11_reportKey D v f hv hf z8_22 (by omega)) (And.intro rfl (fun r9 A9 h9 => ?_)))))))
                obtain ⟨y13, rfl, rfl, by13⟩ := h9
                refine pq_id1 (pq_iload4 (pq_icmp_le ?_))
                refine And.intro (fun c14 => ?_) (fun c14 => ?_)
                · skip
                  refine hC.1 4 73 _ _ rfl _ _ _ _ _ ?_
                  have k1 : (1 : Int32).toInt = 1 := rfl
                  refine pq_iinc (fun zm_9 => [some (.ref h), some (.int x1), some (.int x2), some (.int x3), some (.int z4_10), some (.int z5_10), some (.int z6_10), some (.int z7_22), some (.int zm_9)]) rfl (fun _ => rfl) ?_
                  intro m15 em_73
                  try have e15 : m15.toInt = (z8_22).toInt + (1) := by rw [em_73]; exact pm_addc _ _ (1) rfl (by omega) (by omega)
                  refine pq_goto ?_
                  exact ih5 z7_22 m15 (by omega) (by omega) (by omega)
                · skip
                  refine pq_iload7 (pq_icond_lt ?_)
                  refine And.intro (fun c16 => ?_) (fun c16 => ?_)
                  · skip
                    refine hC.1 3 69 _ _ rfl _ _ _ _ _ ?_
                    refine pq_iload8 (pq_istore [some (.ref h), some (.int x1), some (.int x2), some (.int x3), some (.int z4_10), some (.int z5_10), some (.int z6_10), some (.int z8_22), some (.int z8_22)] rfl (pq_nil ?_))
                    refine hC.1 4 73 _ _ rfl _ _ _ _ _ ?_
                    have k1 : (1 : Int32).toInt = 1 := rfl
                    refine pq_iinc (fun zm_9 => [some (.ref h), some (.int x1), some (.int x2), some (.int x3), some (.int z4_10), some (.int z5_10), some (.int z6_10), some (.int z8_22), some (.int zm_9)]) rfl (fun _ => rfl) ?_
                    intro m17 em_73
                    try have e17 : m17.toInt = (z8_22).toInt + (1) := by rw [em_73]; exact pm_addc _ _ (1) rfl (by omega) (by omega)
                    refine pq_goto ?_
                    exact ih5 z8_22 m17 (by omega) (by omega) (by omega)
                  · skip
                    refine pq_aload_n0 (pq_iload8 (pq_iv1_11 ?_))
                    refine And.intro (Exists.intro _ md_o) (Exists.intro _ (Exists.intro _ (Exists.intro _ (Exists.intro _ (And.intro (c_X11_reportKey D v f hv hf z8_22 (by omega)) (And.intro rfl (fun r9 A9 h9 => ?_)))))))
                    obtain ⟨y18, rfl, rfl, by18⟩ := h9
                    refine pq_id1 (pq_aload_n0 (pq_iload7 (pq_iv1_11 ?_)))
                    refine And.intro (Exists.intro _ md_o) (Exists.intro _ (Exists.intro _ (Exists.intro _ (Exists.intro _ (And.intro (c_X11_reportKey D v f hv hf z7_22 (by omega)) (And.intro rfl (fun r9 A9 h9 => ?_)))))))
                    obtain ⟨y19, rfl, rfl, by19⟩ := h9
                    refine pq_id1 (pq_icmp_ge ?_)
                    refine And.intro (fun c20 => ?_) (fun c20 => ?_)
                    · skip
                      refine hC.1 4 73 _ _ rfl _ _ _ _ _ ?_
                      have k1 : (1 : Int32).toInt = 1 := rfl
                      refine pq_iinc (fun zm_9 => [some (.ref h), some (.int x1), some (.int x2), some (.int x3), some (.int z4_10), some (.int z5_10), some (.int z6_10), some (.int z7_22), some (.int zm_9)]) rfl (fun _ => rfl) ?_
                      intro m21 em_73
                      try have e21 : m21.toInt = (z8_22).toInt + (1) := by rw [em_73]; exact pm_addc _ _ (1) rfl (by omega) (by omega)
                      refine pq_goto ?_
                      exact ih5 z7_22 m21 (by omega) (by omega) (by omega)
                    · skip
                      refine pq_nil ?_
                      refine hC.1 3 69 _ _ rfl _ _ _ _ _ ?_
                      refine pq_iload8 (pq_istore [some (.ref h), some (.int x1), some (.int x2), some (.int x3), some (.int z4_10), some (.int z5_10), some (.int z6_10), some (.int z8_22), some (.int z8_22)] rfl (pq_nil ?_))
                      refine hC.1 4 73 _ _ rfl _ _ _ _ _ ?_
                      have k1 : (1 : Int32).toInt = 1 := rfl
                      refine pq_iinc (fun zm_9 => [some (.ref h), some (.int x1), some (.int x2), some (.int x3), some (.int z4_10), some (.int z5_10), some (.int z6_10), some (.int z8_22), some (.int zm_9)]) rfl (fun _ => rfl) ?_
                      intro m22 em_73
                      try have e22 : m22.toInt = (z8_22).toInt + (1) := by rw [em_73]; exact pm_addc _ _ (1) rfl (by omega) (by omega)
                      refine pq_goto ?_
                      exact ih5 z8_22 m22 (by omega) (by omega) (by omega)
        exact lp4 (200 - x1.toInt).toNat.succ (-1 : Int32) x1 (by omega) (by omega) (by omega)
  exact lp1 (100 - (0 : Int32).toInt).toNat.succ (-268435456 : Int32) (-1 : Int32) (0 : Int32) (by omega) (by omega) (by omega)

set_option maxRecDepth 100000 in
set_option maxHeartbeats 2000000 in
theorem c_X11_report (D : md_D h q) (v : Nat → Int32) (f : Nat → Nat → Int32) (hv : md_V v) (hf : md_F f) (x1 : Int32) (x2 : Int32) (x3 : Int32) (x4 : Int32)  : pm_Mt l g 217 3 0 0 [.ref h, .int x1, .int x2, .int x3, .int x4] (md A0 g h q v f) (md_Qp (md A0 g h q v f) (fun r => True)) := by
  refine mt_X11_report rfl (fun J hC => ?_)
  have hv9 := hv
  unfold md_V at hv9
  have rg_x1 := pm_rng x1
  have rg_x2 := pm_rng x2
  have rg_x3 := pm_rng x3
  have rg_x4 := pm_rng x4
  show J 0 [some (.ref h), some (.int x1), some (.int x2), some (.int x3), some (.int x4), none] [] (md A0 g h q v f) 0 0
  refine hC.1 0 0 _ _ rfl _ _ _ _ _ ?_
  refine pq_aload_n0 (pq_iload_n1 (pq_iload_n2 (pq_iv2_11 ?_)))
  refine And.intro (Exists.intro _ md_o) (Exists.intro _ (Exists.intro _ (Exists.intro _ (Exists.intro _ (And.intro (c_X11_isSpan D v f hv hf x1 x2 ) (And.intro rfl (fun r9 A9 h9 => ?_)))))))
  rcases h9 with ⟨y1, rfl, rfl, ⟨rfl, by1⟩ | ⟨rfl, by1⟩⟩
  · skip
    have k1 : (1 : Int32).toInt = 1 := rfl
    refine pq_id1 (pq_icond_eq ?_)
    refine And.intro (fun c9 => absurd c9 (by decide)) (fun _ => ?_)
    refine pq_iload_n3 ?_
    have k0 : (0 : Int32).toInt = 0 := rfl
    refine pq_iconst ?_
    have k24 : (24 : Int32).toInt = 24 := rfl
    refine pq_bipush (pq_is3 ?_)
    refine Exists.intro _ (Exists.intro _ (Exists.intro _ (Exists.intro _ (And.intro (c_X11_isIn (md A0 g h q v f) x3 (0 : Int32) (24 : Int32) ) (And.intro rfl (fun r9 A9 h9 => ?_))))))
    rcases h9 with ⟨y2, rfl, rfl, ⟨rfl, by2⟩ | ⟨rfl, by2⟩⟩
    · skip
      refine pq_id1 (pq_icond_eq ?_)
      refine And.intro (fun c9 => absurd c9 (by decide)) (fun _ => ?_)
      refine pq_iload4 (pq_iconst ?_)
      have k2 : (2 : Int32).toInt = 2 := rfl
      refine pq_iconst (pq_is3 ?_)
      refine Exists.intro _ (Exists.intro _ (Exists.intro _ (Exists.intro _ (And.intro (c_X11_isIn (md A0 g h q v f) x4 (0 : Int32) (2 : Int32) ) (And.intro rfl (fun r9 A9 h9 => ?_))))))
      rcases h9 with ⟨y3, rfl, rfl, ⟨rfl, by3⟩ | ⟨rfl, by3⟩⟩
      · skip
        refine pq_id1 (pq_icond_ne ?_)
        refine And.intro (fun _ => ?_) (fun c9 => absurd c9 (by decide))
        refine hC.1 2 31 _ _ rfl _ _ _ _ _ ?_
        refine pq_aload_n0 (pq_iload_n1 (pq_iload_n2 (pq_iload_n3 (pq_iv3_11 ?_))))
        refine And.intro (Exists.intro _ md_o) (Exists.intro _ (Exists.intro _ (Exists.intro _ (Exists.intro _ (And.intro (c_X11_reported D v f hv hf x1 x2 x3 (by omega) (by omega)) (And.intro rfl (fun r9 A9 h9 => ?_)))))))
        obtain ⟨y4, rfl, rfl, by4⟩ := h9
        refine pq_id1 (pq_istore [some (.ref h), some (.int x1), some (.int x2), some (.int x3), some (.int x4), some (.int y4)] rfl (pq_iload5 (pq_icond_ge ?_)))
        refine And.intro (fun c5 => ?_) (fun c5 => ?_)
        · skip
          refine hC.1 3 47 _ _ rfl _ _ _ _ _ ?_
          refine pq_iload4 (pq_icond_ne ?_)
          refine And.intro (fun c6 => ?_) (fun c6 => ?_)
          · skip
            have dc6 := pm_neI c6
            refine hC.1 4 57 _ _ rfl _ _ _ _ _ ?_
            refine pq_iload4 (pq_iconst (pq_icmp_ne ?_))
            refine And.intro (fun c7 => ?_) (fun c7 => ?_)
            · skip
              have dc7 := pm_neI c7
              refine hC.1 5 73 _ _ rfl _ _ _ _ _ ?_
              refine pq_aload_n0 (pq_iload5 (pq_iv1_11 ?_))
              refine And.intro (Exists.intro _ md_o) (Exists.intro _ (Exists.intro _ (Exists.intro _ (Exists.intro _ (And.intro (c_X11_bondOf D v f hv hf y4 (by omega)) (And.intro rfl (fun r9 A9 h9 => ?_)))))))
              obtain ⟨y8, rfl, rfl, by8⟩ := h9
              refine pq_id1 (pq_nil ?_)
              refine hC.1 6 79 _ _ rfl _ _ _ _ _ ?_
              refine pq_iret ?_
              exact ⟨rfl, fun e9 => absurd e9 (by decide), rfl, y8, rfl, rfl, by exact True.intro⟩
            · skip
              have dc7 : (x4).toInt = ((1 : Int32) : Int32).toInt := congrArg Int32.toInt c7
              refine pq_aload_n0 (qgm_colours (pq_iload5 (qlm_colours D (by omega) ?_)))
              have w9 : (0 : Int) ≤ (f 0 (y4).toInt.toNat).toInt ∧ (f 0 (y4).toInt.toNat).toInt ≤ (23 : Int) := hf 0 _
              refine pq_goto ?_
              refine hC.1 6 79 _ _ rfl _ _ _ _ _ ?_
              refine pq_iret ?_
              exact ⟨rfl, fun e9 => absurd e9 (by decide), rfl, (f 0 (y4).toInt.toNat), rfl, rfl, by exact True.intro⟩
          · skip
            have dc6 : (x4).toInt = (0 : Int32).toInt := congrArg Int32.toInt c6
            refine pq_iload5 (pq_goto ?_)
            refine hC.1 6 79 _ _ rfl _ _ _ _ _ ?_
            refine pq_iret ?_
            exact ⟨rfl, fun e9 => absurd e9 (by decide), rfl, y4, rfl, rfl, by exact True.intro⟩
        · skip
          have km1 : (-1 : Int32).toInt = -1 := rfl
          refine pq_iconst (pq_iret ?_)
          exact ⟨rfl, fun e9 => absurd e9 (by decide), rfl, (-1 : Int32), rfl, rfl, by exact True.intro⟩
      · skip
        refine pq_id1 (pq_icond_ne ?_)
        refine And.intro (fun c9 => absurd c9 (by decide)) (fun _ => ?_)
        refine pq_nil ?_
        refine hC.1 1 29 _ _ rfl _ _ _ _ _ ?_
        have km1 : (-1 : Int32).toInt = -1 := rfl
        refine pq_iconst (pq_iret ?_)
        exact ⟨rfl, fun e9 => absurd e9 (by decide), rfl, (-1 : Int32), rfl, rfl, by exact True.intro⟩
    · skip
      refine pq_id1 (pq_icond_eq ?_)
      refine And.intro (fun _ => ?_) (fun c9 => absurd c9 (by decide))
      refine hC.1 1 29 _ _ rfl _ _ _ _ _ ?_
      have km1 : (-1 : Int32).toInt = -1 := rfl
      refine pq_iconst (pq_iret ?_)
      exact ⟨rfl, fun e9 => absurd e9 (by decide), rfl, (-1 : Int32), rfl, rfl, by exact True.intro⟩
  · skip
    have k0 : (0 : Int32).toInt = 0 := rfl
    refine pq_id1 (pq_icond_eq ?_)
    refine And.intro (fun _ => ?_) (fun c9 => absurd c9 (by decide))
    refine hC.1 1 29 _ _ rfl _ _ _ _ _ ?_
    have km1 : (-1 : Int32).toInt = -1 := rfl
    refine pq_iconst (pq_iret ?_)
    exact ⟨rfl, fun e9 => absurd e9 (by decide), rfl, (-1 : Int32), rfl, rfl, by exact True.intro⟩

set_option maxRecDepth 100000 in
set_option maxHeartbeats 2000000 in
theorem c_X11_absent (D : md_D h q) (v : Nat → Int32) (f : Nat → Nat → Int32) (hv : md_V v) (hf : md_F f) (x1 : Int32) (x2 : Int32) (x3 : Int32)  : pm_Mt l g 223 1 0 0 [.ref h, .int x1, .int x2, .int x3] (md A0 g h q v f) (md_Qp (md A0 g h q v f) (fun r => True)) := by
  refine mt_X11_absent rfl (fun J hC => ?_)
  have hv9 := hv
  unfold md_V at hv9
  have rg_x1 := pm_rng x1
  have rg_x2 := pm_rng x2
  have rg_x3 := pm_rng x3
  show J 0 [some (.ref h), some (.int x1), some (.int x2), some (.int x3), none, none, none] [] (md A0 g h q v f) 0 0
  refine hC.1 0 0 _ _ rfl _ _ _ _ _ ?_
  refine pq_aload_n0 (pq_iload_n1 (pq_iload_n2 (pq_iv2_11 ?_)))
  refine And.intro (Exists.intro _ md_o) (Exists.intro _ (Exists.intro _ (Exists.intro _ (Exists.intro _ (And.intro (c_X11_isSpan D v f hv hf x1 x2 ) (And.intro rfl (fun r9 A9 h9 => ?_)))))))
  rcases h9 with ⟨y1, rfl, rfl, ⟨rfl, by1⟩ | ⟨rfl, by1⟩⟩
  · skip
    have k1 : (1 : Int32).toInt = 1 := rfl
    refine pq_id1 (pq_icond_eq ?_)
    refine And.intro (fun c9 => absurd c9 (by decide)) (fun _ => ?_)
    refine pq_iload_n3 (pq_icond_ge ?_)
    refine And.intro (fun c2 => ?_) (fun c2 => ?_)
    · skip
      refine hC.1 2 15 _ _ rfl _ _ _ _ _ ?_
      refine pq_aload_n0 (pq_iload_n1 (pq_iload_n2 (pq_iv2_11 ?_)))
      refine And.intro (Exists.intro _ md_o) (Exists.intro _ (Exists.intro _ (Exists.intro _ (Exists.intro _ (And.intro (c_X11_setOf D v f hv hf x1 x2 (by omega) (by omega)) (And.intro rfl (fun r9 A9 h9 => ?_)))))))
      obtain ⟨y3, rfl, rfl, by3⟩ := h9
      refine pq_id1 (pq_istore [some (.ref h), some (.int x1), some (.int x2), some (.int x3), some (.int y3), none, none] rfl (pq_iload_n3 (pq_istore [some (.ref h), some (.int x1), some (.int x2), some (.int x3), some (.int y3), some (.int x3), none] rfl ?_)))
      have k0 : (0 : Int32).toInt = 0 := rfl
      refine pq_iconst (pq_istore [some (.ref h), some (.int x1), some (.int x2), some (.int x3), some (.int y3), some (.int x3), some (.int (0 : Int32))] rfl (pq_nil ?_))
      have lp4 : ∀ (n : Nat) (z5_29 : Int32) (z6_29 : Int32), (0 ≤ z6_29.toInt ∧ z6_29.toInt ≤ 24) → 200 - z6_29.toInt < (n : Int) → J 29 [some (.ref h), some (.int x1), some (.int x2), some (.int x3), some (.int y3), some (.int z5_29), some (.int z6_29)] [] (md A0 g h q v f) 0 0 := by
        intro n
        induction n with
        | zero =>
          intro z5_29 z6_29 j0_29 j1_29
          omega
        | succ n ih5 =>
          intro z5_29 z6_29 j0_29 j1_29
          refine hC.1 3 29 _ _ rfl _ _ _ _ _ ?_
          refine pq_iload6 ?_
          have k24 : (24 : Int32).toInt = 24 := rfl
          refine pq_bipush (pq_icmp_ge ?_)
          refine And.intro (fun c6 => ?_) (fun c6 => ?_)
          · skip
            refine hC.1 7 67 _ _ rfl _ _ _ _ _ ?_
            have km1 : (-1 : Int32).toInt = -1 := rfl
            refine pq_iconst (pq_iret ?_)
            exact ⟨rfl, fun e9 => absurd e9 (by decide), rfl, (-1 : Int32), rfl, rfl, by exact True.intro⟩
          · skip
            refine pq_iload4 (pq_iload6 (pq_ishr (pq_iconst (pq_iand (pq_iconst (pq_icmp_ne ?_))))))
            refine And.intro (fun c7 => ?_) (fun c7 => ?_)
            · skip
              have dc7 := pm_neI c7
              refine hC.1 4 50 _ _ rfl _ _ _ _ _ ?_
              refine pq_iload5 (pq_icond_ne ?_)
              refine And.intro (fun c8 => ?_) (fun c8 => ?_)
              · skip
                have dc8 := pm_neI c8
                refine hC.1 5 58 _ _ rfl _ _ _ _ _ ?_
                have km1 : (-1 : Int32).toInt = -1 := rfl
                refine pq_iinc (fun zm_9 => [some (.ref h), some (.int x1), some (.int x2), some (.int x3), some (.int y3), some (.int zm_9), some (.int z6_29)]) rfl (fun _ => rfl) ?_
                intro m9 em_58
                try have e9 : m9.toInt = (z5_29).toInt + (-1) := by rw [em_58]; exact pm_addc _ _ (-1) rfl (by omega) (by omega)
                refine pq_nil ?_
                refine hC.1 6 61 _ _ rfl _ _ _ _ _ ?_
                refine pq_iinc (fun zm_9 => [some (.ref h), some (.int x1), some (.int x2), some (.int x3), some (.int y3), some (.int m9), some (.int zm_9)]) rfl (fun _ => rfl) ?_
                intro m10 em_61
                try have e10 : m10.toInt = (z6_29).toInt + (1) := by rw [em_61]; exact pm_addc _ _ (1) rfl (by omega) (by omega)
                refine pq_goto ?_
                exact ih5 m9 m10 (by omega) (by omega)
              · skip
                have dc8 : (z5_29).toInt = (0 : Int32).toInt := congrArg Int32.toInt c8
                refine pq_iload6 (pq_iret ?_)
                exact ⟨rfl, fun e9 => absurd e9 (by decide), rfl, z6_29, rfl, rfl, by exact True.intro⟩
            · skip
              have dc7 : (((y3 >>> (z6_29 &&& 31)) &&& (1 : Int32))).toInt = ((1 : Int32) : Int32).toInt := congrArg Int32.toInt c7
              refine pq_goto ?_
              refine hC.1 6 61 _ _ rfl _ _ _ _ _ ?_
              refine pq_iinc (fun zm_9 => [some (.ref h), some (.int x1), some (.int x2), some (.int x3), some (.int y3), some (.int z5_29), some (.int zm_9)]) rfl (fun _ => rfl) ?_
              intro m11 em_61
              try have e11 : m11.toInt = (z6_29).toInt + (1) := by rw [em_61]; exact pm_addc _ _ (1) rfl (by omega) (by omega)
              refine pq_goto ?_
              exact ih5 z5_29 m11 (by omega) (by omega)
      exact lp4 (200 - (0 : Int32).toInt).toNat.succ x3 (0 : Int32) (by omega) (by omega)
    · skip
      refine pq_nil ?_
      refine hC.1 1 13 _ _ rfl _ _ _ _ _ ?_
      have km1 : (-1 : Int32).toInt = -1 := rfl
      refine pq_iconst (pq_iret ?_)
      exact ⟨rfl, fun e9 => absurd e9 (by decide), rfl, (-1 : Int32), rfl, rfl, by exact True.intro⟩
  · skip
    have k0 : (0 : Int32).toInt = 0 := rfl
    refine pq_id1 (pq_icond_eq ?_)
    refine And.intro (fun _ => ?_) (fun c9 => absurd c9 (by decide))
    refine hC.1 1 13 _ _ rfl _ _ _ _ _ ?_
    have km1 : (-1 : Int32).toInt = -1 := rfl
    refine pq_iconst (pq_iret ?_)
    exact ⟨rfl, fun e9 => absurd e9 (by decide), rfl, (-1 : Int32), rfl, rfl, by exact True.intro⟩

set_option maxRecDepth 100000 in
set_option maxHeartbeats 2000000 in
theorem c_X11_both (D : md_D h q) (v : Nat → Int32) (f : Nat → Nat → Int32) (hv : md_V v) (hf : md_F f) (x1 : Int32) (x2 : Int32) (x3 : Int32) (x4 : Int32) (x5 : Int32)  : pm_Mt l g 224 1 0 0 [.ref h, .int x1, .int x2, .int x3, .int x4, .int x5] (md A0 g h q v f) (md_Qp (md A0 g h q v f) (fun r => True)) := by
  refine mt_X11_both rfl (fun J hC => ?_)
  have hv9 := hv
  unfold md_V at hv9
  have rg_x1 := pm_rng x1
  have rg_x2 := pm_rng x2
  have rg_x3 := pm_rng x3
  have rg_x4 := pm_rng x4
  have rg_x5 := pm_rng x5
  show J 0 [some (.ref h), some (.int x1), some (.int x2), some (.int x3), some (.int x4), some (.int x5), none, none] [] (md A0 g h q v f) 0 0
  refine hC.1 0 0 _ _ rfl _ _ _ _ _ ?_
  refine pq_aload_n0 (pq_iload_n1 (pq_iload_n2 (pq_iv2_11 ?_)))
  refine And.intro (Exists.intro _ md_o) (Exists.intro _ (Exists.intro _ (Exists.intro _ (Exists.intro _ (And.intro (c_X11_isSpan D v f hv hf x1 x2 ) (And.intro rfl (fun r9 A9 h9 => ?_)))))))
  rcases h9 with ⟨y1, rfl, rfl, ⟨rfl, by1⟩ | ⟨rfl, by1⟩⟩
  · skip
    have k1 : (1 : Int32).toInt = 1 := rfl
    refine pq_id1 (pq_icond_eq ?_)
    refine And.intro (fun c9 => absurd c9 (by decide)) (fun _ => ?_)
    refine pq_aload_n0 (pq_iload_n3 (pq_iload4 (pq_iv2_11 ?_)))
    refine And.intro (Exists.intro _ md_o) (Exists.intro _ (Exists.intro _ (Exists.intro _ (Exists.intro _ (And.intro (c_X11_isSpan D v f hv hf x3 x4 ) (And.intro rfl (fun r9 A9 h9 => ?_)))))))
    rcases h9 with ⟨y2, rfl, rfl, ⟨rfl, by2⟩ | ⟨rfl, by2⟩⟩
    · skip
      refine pq_id1 (pq_icond_ne ?_)
      refine And.intro (fun _ => ?_) (fun c9 => absurd c9 (by decide))
      refine hC.1 2 21 _ _ rfl _ _ _ _ _ ?_
      refine pq_aload_n0 (pq_iload_n1 (pq_iload_n2 (pq_iv2_11 ?_)))
      refine And.intro (Exists.intro _ md_o) (Exists.intro _ (Exists.intro _ (Exists.intro _ (Exists.intro _ (And.intro (c_X11_setOf D v f hv hf x1 x2 (by omega) (by omega)) (And.intro rfl (fun r9 A9 h9 => ?_)))))))
      obtain ⟨y3, rfl, rfl, by3⟩ := h9
      refine pq_id1 (pq_istore [some (.ref h), some (.int x1), some (.int x2), some (.int x3), some (.int x4), some (.int x5), some (.int y3), none] rfl (pq_aload_n0 (pq_iload_n3 (pq_iload4 (pq_iv2_11 ?_)))))
      refine And.intro (Exists.intro _ md_o) (Exists.intro _ (Exists.intro _ (Exists.intro _ (Exists.intro _ (And.intro (c_X11_setOf D v f hv hf x3 x4 (by omega) (by omega)) (And.intro rfl (fun r9 A9 h9 => ?_)))))))
      obtain ⟨y4, rfl, rfl, by4⟩ := h9
      refine pq_id1 (pq_istore [some (.ref h), some (.int x1), some (.int x2), some (.int x3), some (.int x4), some (.int x5), some (.int y3), some (.int y4)] rfl (pq_iload5 (pq_icond_ne ?_)))
      refine And.intro (fun c5 => ?_) (fun c5 => ?_)
      · skip
        have dc5 := pm_neI c5
        have k0 : (0 : Int32).toInt = 0 := rfl
        refine hC.1 3 54 _ _ rfl _ _ _ _ _ ?_
        refine pq_iload5 (pq_iconst (pq_icmp_ne ?_))
        refine And.intro (fun c6 => ?_) (fun c6 => ?_)
        · skip
          have dc6 := pm_neI c6
          refine hC.1 4 73 _ _ rfl _ _ _ _ _ ?_
          refine pq_iload5 ?_
          have k2 : (2 : Int32).toInt = 2 := rfl
          refine pq_iconst (pq_icmp_ne ?_)
          refine And.intro (fun c7 => ?_) (fun c7 => ?_)
          · skip
            have dc7 := pm_neI c7
            refine hC.1 5 90 _ _ rfl _ _ _ _ _ ?_
            have km1 : (-1 : Int32).toInt = -1 := rfl
            refine pq_iconst (pq_nil ?_)
            refine hC.1 6 91 _ _ rfl _ _ _ _ _ ?_
            refine pq_iret ?_
            exact ⟨rfl, fun e9 => absurd e9 (by decide), rfl, (-1 : Int32), rfl, rfl, by exact True.intro⟩
          · skip
            have dc7 : (x5).toInt = ((2 : Int32) : Int32).toInt := congrArg Int32.toInt c7
            refine pq_iload6 (pq_iload7 (pq_ior (pq_is1 ?_)))
            refine Exists.intro _ (Exists.intro _ (Exists.intro _ (Exists.intro _ (And.intro (c_X11_bits (md A0 g h q v f) (y3 ||| y4) ) (And.intro rfl (fun r9 A9 h9 => ?_))))))
            obtain ⟨y8, rfl, rfl, by8⟩ := h9
            refine pq_id1 (pq_goto ?_)
            refine hC.1 6 91 _ _ rfl _ _ _ _ _ ?_
            refine pq_iret ?_
            exact ⟨rfl, fun e9 => absurd e9 (by decide), rfl, y8, rfl, rfl, by exact True.intro⟩
        · skip
          have dc6 : (x5).toInt = ((1 : Int32) : Int32).toInt := congrArg Int32.toInt c6
          refine pq_iload6 (pq_iload7 ?_)
          have km1 : (-1 : Int32).toInt = -1 := rfl
          refine pq_iconst (pq_ixor (pq_iand (pq_is1 ?_)))
          refine Exists.intro _ (Exists.intro _ (Exists.intro _ (Exists.intro _ (And.intro (c_X11_bits (md A0 g h q v f) (y3 &&& (y4 ^^^ (-1 : Int32))) ) (And.intro rfl (fun r9 A9 h9 => ?_))))))
          obtain ⟨y9, rfl, rfl, by9⟩ := h9
          refine pq_id1 (pq_goto ?_)
          refine hC.1 6 91 _ _ rfl _ _ _ _ _ ?_
          refine pq_iret ?_
          exact ⟨rfl, fun e9 => absurd e9 (by decide), rfl, y9, rfl, rfl, by exact True.intro⟩
      · skip
        have dc5 : (x5).toInt = (0 : Int32).toInt := congrArg Int32.toInt c5
        have k0 : (0 : Int32).toInt = 0 := rfl
        refine pq_iload6 (pq_iload7 (pq_iand (pq_is1 ?_)))
        refine Exists.intro _ (Exists.intro _ (Exists.intro _ (Exists.intro _ (And.intro (c_X11_bits (md A0 g h q v f) (y3 &&& y4) ) (And.intro rfl (fun r9 A9 h9 => ?_))))))
        obtain ⟨y10, rfl, rfl, by10⟩ := h9
        refine pq_id1 (pq_goto ?_)
        refine hC.1 6 91 _ _ rfl _ _ _ _ _ ?_
        refine pq_iret ?_
        exact ⟨rfl, fun e9 => absurd e9 (by decide), rfl, y10, rfl, rfl, by exact True.intro⟩
    · skip
      have k0 : (0 : Int32).toInt = 0 := rfl
      refine pq_id1 (pq_icond_ne ?_)
      refine And.intro (fun c9 => absurd c9 (by decide)) (fun _ => ?_)
      refine pq_nil ?_
      refine hC.1 1 19 _ _ rfl _ _ _ _ _ ?_
      have km1 : (-1 : Int32).toInt = -1 := rfl
      refine pq_iconst (pq_iret ?_)
      exact ⟨rfl, fun e9 => absurd e9 (by decide), rfl, (-1 : Int32), rfl, rfl, by exact True.intro⟩
  · skip
    have k0 : (0 : Int32).toInt = 0 := rfl
    refine pq_id1 (pq_icond_eq ?_)
    refine And.intro (fun _ => ?_) (fun c9 => absurd c9 (by decide))
    refine hC.1 1 19 _ _ rfl _ _ _ _ _ ?_
    have km1 : (-1 : Int32).toInt = -1 := rfl
    refine pq_iconst (pq_iret ?_)
    exact ⟨rfl, fun e9 => absurd e9 (by decide), rfl, (-1 : Int32), rfl, rfl, by exact True.intro⟩

set_option maxRecDepth 100000 in
set_option maxHeartbeats 2000000 in
theorem c_X11_close (D : md_D h q) (v : Nat → Int32) (f : Nat → Nat → Int32) (hv : md_V v) (hf : md_F f) (x1 : Int32) (x2 : Int32) (x3 : Int32)  : pm_Mt l g 225 1 0 0 [.ref h, .int x1, .int x2, .int x3] (md A0 g h q v f) (md_Qp (md A0 g h q v f) (fun r => True)) := by
  refine mt_X11_close rfl (fun J hC => ?_)
  have hv9 := hv
  unfold md_V at hv9
  have rg_x1 := pm_rng x1
  have rg_x2 := pm_rng x2
  have rg_x3 := pm_rng x3
  show J 0 [some (.ref h), some (.int x1), some (.int x2), some (.int x3), none, none] [] (md A0 g h q v f) 0 0
  refine hC.1 0 0 _ _ rfl _ _ _ _ _ ?_
  refine pq_aload_n0 (pq_iload_n1 (pq_iload_n2 (pq_iv2_11 ?_)))
  refine And.intro (Exists.intro _ md_o) (Exists.intro _ (Exists.intro _ (Exists.intro _ (Exists.intro _ (And.intro (c_X11_isSpan D v f hv hf x1 x2 ) (And.intro rfl (fun r9 A9 h9 => ?_)))))))
  rcases h9 with ⟨y1, rfl, rfl, ⟨rfl, by1⟩ | ⟨rfl, by1⟩⟩
  · skip
    have k1 : (1 : Int32).toInt = 1 := rfl
    refine pq_id1 (pq_icond_eq ?_)
    refine And.intro (fun c9 => absurd c9 (by decide)) (fun _ => ?_)
    refine pq_iload_n3 ?_
    have k0 : (0 : Int32).toInt = 0 := rfl
    refine pq_iconst (pq_iconst (pq_is3 ?_))
    refine Exists.intro _ (Exists.intro _ (Exists.intro _ (Exists.intro _ (And.intro (c_X11_isIn (md A0 g h q v f) x3 (0 : Int32) (1 : Int32) ) (And.intro rfl (fun r9 A9 h9 => ?_))))))
    rcases h9 with ⟨y2, rfl, rfl, ⟨rfl, by2⟩ | ⟨rfl, by2⟩⟩
    · skip
      refine pq_id1 (pq_icond_ne ?_)
      refine And.intro (fun _ => ?_) (fun c9 => absurd c9 (by decide))
      refine hC.1 2 20 _ _ rfl _ _ _ _ _ ?_
      have km1 : (-1 : Int32).toInt = -1 := rfl
      refine pq_iconst (pq_istore [some (.ref h), some (.int x1), some (.int x2), some (.int x3), some (.int (-1 : Int32)), none] rfl (pq_iload_n1 (pq_istore [some (.ref h), some (.int x1), some (.int x2), some (.int x3), some (.int (-1 : Int32)), some (.int x1)] rfl (pq_nil ?_))))
      have lp3 : ∀ (n : Nat) (z4_26 : Int32) (z5_26 : Int32), (x1.toInt ≤ z5_26.toInt ∧ z5_26.toInt ≤ x2.toInt + 1) → (-1 ≤ z4_26.toInt ∧ z4_26.toInt ≤ x2.toInt) → 200 - z5_26.toInt < (n : Int) → J 26 [some (.ref h), some (.int x1), some (.int x2), some (.int x3), some (.int z4_26), some (.int z5_26)] [] (md A0 g h q v f) 0 0 := by
        intro n
        induction n with
        | zero =>
          intro z4_26 z5_26 j0_26 j1_26 j2_26
          omega
        | succ n ih4 =>
          intro z4_26 z5_26 j0_26 j1_26 j2_26
          refine hC.1 3 26 _ _ rfl _ _ _ _ _ ?_
          refine pq_iload5 (pq_iload_n2 (pq_icmp_gt ?_))
          refine And.intro (fun c5 => ?_) (fun c5 => ?_)
          · skip
            refine hC.1 6 78 _ _ rfl _ _ _ _ _ ?_
            refine pq_iload4 (pq_icond_ge ?_)
            refine And.intro (fun c6 => ?_) (fun c6 => ?_)
            · skip
              refine hC.1 7 87 _ _ rfl _ _ _ _ _ ?_
              refine pq_iload_n3 (pq_icond_ne ?_)
              refine And.intro (fun c7 => ?_) (fun c7 => ?_)
              · skip
                have dc7 := pm_neI c7
                refine hC.1 8 103 _ _ rfl _ _ _ _ _ ?_
                refine pq_aload_n0 (pq_iload4 (pq_iv1_11 ?_))
                refine And.intro (Exists.intro _ md_o) (Exists.intro _ (Exists.intro _ (Exists.intro _ (Exists.intro _ (And.intro (c_X11_ahead D v f hv hf z4_26 (by omega)) (And.intro rfl (fun r9 A9 h9 => ?_)))))))
                obtain ⟨y8, rfl, rfl, by8⟩ := h9
                refine pq_id1 (pq_nil ?_)
                refine hC.1 9 109 _ _ rfl _ _ _ _ _ ?_
                refine pq_iret ?_
                exact ⟨rfl, fun e9 => absurd e9 (by decide), rfl, y8, rfl, rfl, by exact True.intro⟩
              · skip
                have dc7 : (x3).toInt = (0 : Int32).toInt := congrArg Int32.toInt c7
                refine pq_iload4 (pq_aload_n0 (pq_iload4 (pq_iv1_11 ?_)))
                refine And.intro (Exists.intro _ md_o) (Exists.intro _ (Exists.intro _ (Exists.intro _ (Exists.intro _ (And.intro (c_X11_ahead D v f hv hf z4_26 (by omega)) (And.intro rfl (fun r9 A9 h9 => ?_)))))))
                obtain ⟨y9, rfl, rfl, by9⟩ := h9
                refine pq_id1 (pq_isub ?_)
                intro m10 em_99
                try have e10 : m10.toInt = (z4_26).toInt - (y9).toInt := by rw [em_99]; exact pm_sub _ _ (by omega) (by omega)
                refine pq_goto ?_
                refine hC.1 9 109 _ _ rfl _ _ _ _ _ ?_
                refine pq_iret ?_
                exact ⟨rfl, fun e9 => absurd e9 (by decide), rfl, m10, rfl, rfl, by exact True.intro⟩
            · skip
              refine pq_iconst (pq_goto ?_)
              refine hC.1 9 109 _ _ rfl _ _ _ _ _ ?_
              refine pq_iret ?_
              exact ⟨rfl, fun e9 => absurd e9 (by decide), rfl, (-1 : Int32), rfl, rfl, by exact True.intro⟩
          · skip
            refine pq_aload_n0 (pq_iload5 (pq_iv1_11 ?_))
            refine And.intro (Exists.intro _ md_o) (Exists.intro _ (Exists.intro _ (Exists.intro _ (Exists.intro _ (And.intro (c_X11_ahead D v f hv hf z5_26 (by omega)) (And.intro rfl (fun r9 A9 h9 => ?_)))))))
            obtain ⟨y11, rfl, rfl, by11⟩ := h9
            refine pq_id1 (pq_iload_n1 (pq_icmp_lt ?_))
            refine And.intro (fun c12 => ?_) (fun c12 => ?_)
            · skip
              refine hC.1 5 72 _ _ rfl _ _ _ _ _ ?_
              refine pq_iinc (fun zm_9 => [some (.ref h), some (.int x1), some (.int x2), some (.int x3), some (.int z4_26), some (.int zm_9)]) rfl (fun _ => rfl) ?_
              intro m13 em_72
              try have e13 : m13.toInt = (z5_26).toInt + (1) := by rw [em_72]; exact pm_addc _ _ (1) rfl (by omega) (by omega)
              refine pq_goto ?_
              exact ih4 z4_26 m13 (by omega) (by omega) (by omega)
            · skip
              refine pq_iload4 (pq_icond_lt ?_)
              refine And.intro (fun c14 => ?_) (fun c14 => ?_)
              · skip
                refine hC.1 4 68 _ _ rfl _ _ _ _ _ ?_
                refine pq_iload5 (pq_istore [some (.ref h), some (.int x1), some (.int x2), some (.int x3), some (.int z5_26), some (.int z5_26)] rfl (pq_nil ?_))
                refine hC.1 5 72 _ _ rfl _ _ _ _ _ ?_
                refine pq_iinc (fun zm_9 => [some (.ref h), some (.int x1), some (.int x2), some (.int x3), some (.int z5_26), some (.int zm_9)]) rfl (fun _ => rfl) ?_
                intro m15 em_72
                try have e15 : m15.toInt = (z5_26).toInt + (1) := by rw [em_72]; exact pm_addc _ _ (1) rfl (by omega) (by omega)
                refine pq_goto ?_
                exact ih4 z5_26 m15 (by omega) (by omega) (by omega)
              · skip
                refine pq_iload5 (pq_aload_n0 (pq_iload5 (pq_iv1_11 ?_)))
                refine And.intro (Exists.intro _ md_o) (Exists.intro _ (Exists.intro _ (Exists.intro _ (Exists.intro _ (And.intro (c_X11_ahead D v f hv hf z5_26 (by omega)) (And.intro rfl (fun r9 A9 h9 => ?_)))))))
                obtain ⟨y16, rfl, rfl, by16⟩ := h9
                refine pq_id1 (pq_isub ?_)
                intro m17 em_55
                try have e17 : m17.toInt = (z5_26).toInt - (y16).toInt := by rw [em_55]; exact pm_sub _ _ (by omega) (by omega)
                refine pq_iload4 (pq_aload_n0 (pq_iload4 (pq_iv1_11 ?_)))
                refine And.intro (Exists.intro _ md_o) (Exists.intro _ (Exists.intro _ (Exists.intro _ (Exists.intro _ (And.intro (c_X11_ahead D v f hv hf z4_26 (by omega)) (And.intro rfl (fun r9 A9 h9 => ?_)))))))
                obtain ⟨y18, rfl, rfl, by18⟩ := h9
                refine pq_id1 (pq_isub ?_)
                intro m19 em_64
                try have e19 : m19.toInt = (z4_26).toInt - (y18).toInt := by rw [em_64]; exact pm_sub _ _ (by omega) (by omega)
                refine pq_icmp_ge ?_
                refine And.intro (fun c20 => ?_) (fun c20 => ?_)
                · skip
                  refine hC.1 5 72 _ _ rfl _ _ _ _ _ ?_
                  refine pq_iinc (fun zm_9 => [some (.ref h), some (.int x1), some (.int x2), some (.int x3), some (.int z4_26), some (.int zm_9)]) rfl (fun _ => rfl) ?_
                  intro m21 em_72
                  try have e21 : m21.toInt = (z5_26).toInt + (1) := by rw [em_72]; exact pm_addc _ _ (1) rfl (by omega) (by omega)
                  refine pq_goto ?_
                  exact ih4 z4_26 m21 (by omega) (by omega) (by omega)
                · skip
                  refine pq_nil ?_
                  refine hC.1 4 68 _ _ rfl _ _ _ _ _ ?_
                  refine pq_iload5 (pq_istore [some (.ref h), some (.int x1), some (.int x2), some (.int x3), some (.int z5_26), some (.int z5_26)] rfl (pq_nil ?_))
                  refine hC.1 5 72 _ _ rfl _ _ _ _ _ ?_
                  refine pq_iinc (fun zm_9 => [some (.ref h), some (.int x1), some (.int x2), some (.int x3), some (.int z5_26), some (.int zm_9)]) rfl (fun _ => rfl) ?_
                  intro m22 em_72
                  try have e22 : m22.toInt = (z5_26).toInt + (1) := by rw [em_72]; exact pm_addc _ _ (1) rfl (by omega) (by omega)
                  refine pq_goto ?_
                  exact ih4 z5_26 m22 (by omega) (by omega) (by omega)
      exact lp3 (200 - x1.toInt).toNat.succ (-1 : Int32) x1 (by omega) (by omega) (by omega)
    · skip
      refine pq_id1 (pq_icond_ne ?_)
      refine And.intro (fun c9 => absurd c9 (by decide)) (fun _ => ?_)
      refine pq_nil ?_
      refine hC.1 1 18 _ _ rfl _ _ _ _ _ ?_
      have km1 : (-1 : Int32).toInt = -1 := rfl
      refine pq_iconst (pq_iret ?_)
      exact ⟨rfl, fun e9 => absurd e9 (by decide), rfl, (-1 : Int32), rfl, rfl, by exact True.intro⟩
  · skip
    have k0 : (0 : Int32).toInt = 0 := rfl
    refine pq_id1 (pq_icond_eq ?_)
    refine And.intro (fun _ => ?_) (fun c9 => absurd c9 (by decide))
    refine hC.1 1 18 _ _ rfl _ _ _ _ _ ?_
    have km1 : (-1 : Int32).toInt = -1 := rfl
    refine pq_iconst (pq_iret ?_)
    exact ⟨rfl, fun e9 => absurd e9 (by decide), rfl, (-1 : Int32), rfl, rfl, by exact True.intro⟩

end
end
section
section
variable {l : Launch} {g : pm_G} {A0 : pm_H} {h : Nat} {q : Nat → Nat}
set_option maxRecDepth 100000 in
set_option maxHeartbeats 2000000 in
theorem c_X11_isKnown (D : md_D h q) (v : Nat → Int32) (f : Nat → Nat → Int32) (hv : md_V v) (hf : md_F f) (x1 : Int32)  : pm_Mt l g 227 0 0 0 [.ref h, .int x1] (md A0 g h q v f) (md_Qp (md A0 g h q v f) (fun r => (r = 1 ∧ (0 ≤ x1.toInt ∧ x1.toInt ≤ (v 4).toInt ∧ x1.toInt > (v 4).toInt - 40)) ∨ (r = 0 ∧ (¬ (0 ≤ x1.toInt ∧ x1.toInt ≤ (v 4).toInt ∧ x1.toInt > (v 4).toInt - 40))))) := by
  refine mt_X11_isKnown rfl (fun J hC => ?_)
  have hv9 := hv
  unfold md_V at hv9
  have rg_x1 := pm_rng x1
  show J 0 [some (.ref h), some (.int x1)] [] (md A0 g h q v f) 0 0
  refine hC.1 0 0 _ _ rfl _ _ _ _ _ ?_
  refine pq_iload_n1 (pq_icond_lt ?_)
  refine And.intro (fun c1 => ?_) (fun c1 => ?_)
  · skip
    refine hC.1 1 27 _ _ rfl _ _ _ _ _ ?_
    have k0 : (0 : Int32).toInt = 0 := rfl
    refine pq_iconst (pq_nil ?_)
    refine hC.1 2 28 _ _ rfl _ _ _ _ _ ?_
    refine pq_iret ?_
    exact ⟨rfl, fun _ => (by decide), rfl, (0 : Int32), rfl, rfl, Or.inr ⟨rfl, by first | omega | (dsimp only; omega) | trivial⟩⟩
  · skip
    refine pq_iload_n1 (pq_aload_n0 (qgm_edits (pq_icmp_gt ?_)))
    refine And.intro (fun c2 => ?_) (fun c2 => ?_)
    · skip
      refine hC.1 1 27 _ _ rfl _ _ _ _ _ ?_
      have k0 : (0 : Int32).toInt = 0 := rfl
      refine pq_iconst (pq_nil ?_)
      refine hC.1 2 28 _ _ rfl _ _ _ _ _ ?_
      refine pq_iret ?_
      exact ⟨rfl, fun _ => (by decide), rfl, (0 : Int32), rfl, rfl, Or.inr ⟨rfl, by first | omega | (dsimp only; omega) | trivial⟩⟩
    · skip
      refine pq_iload_n1 (pq_aload_n0 (qgm_edits ?_))
      have k40 : (40 : Int32).toInt = 40 := rfl
      refine pq_bipush (pq_isub ?_)
      intro m3 em_19
      try have e3 : m3.toInt = ((v 4)).toInt - (40) := by rw [em_19]; exact pm_subc _ _ (40) rfl (by omega) (by omega)
      refine pq_icmp_le ?_
      refine And.intro (fun c4 => ?_) (fun c4 => ?_)
      · skip
        refine hC.1 1 27 _ _ rfl _ _ _ _ _ ?_
        have k0 : (0 : Int32).toInt = 0 := rfl
        refine pq_iconst (pq_nil ?_)
        refine hC.1 2 28 _ _ rfl _ _ _ _ _ ?_
        refine pq_iret ?_
        exact ⟨rfl, fun _ => (by decide), rfl, (0 : Int32), rfl, rfl, Or.inr ⟨rfl, by first | omega | (dsimp only; omega) | trivial⟩⟩
      · skip
        have k1 : (1 : Int32).toInt = 1 := rfl
        refine pq_iconst (pq_goto ?_)
        refine hC.1 2 28 _ _ rfl _ _ _ _ _ ?_
        refine pq_iret ?_
        exact ⟨rfl, fun _ => (by decide), rfl, (1 : Int32), rfl, rfl, Or.inl ⟨rfl, by first | omega | (dsimp only; omega) | trivial⟩⟩

set_option maxRecDepth 100000 in
set_option maxHeartbeats 2000000 in
theorem c_X11_wasColour (D : md_D h q) (v : Nat → Int32) (f : Nat → Nat → Int32) (hv : md_V v) (hf : md_F f) (x1 : Int32) (x2 : Int32) (p0 : 0 ≤ x1.toInt) (p1 : 0 ≤ x2.toInt ∧ x2.toInt < 160) : pm_Mt l g 228 0 0 0 [.ref h, .int x1, .int x2] (md A0 g h q v f) (md_Qp (md A0 g h q v f) (fun r => 0 ≤ r.toInt ∧ r.toInt ≤ 23)) := by
  refine mt_X11_wasColour rfl (fun J hC => ?_)
  have hv9 := hv
  unfold md_V at hv9
  have rg_x1 := pm_rng x1
  have rg_x2 := pm_rng x2
  show J 0 [some (.ref h), some (.int x1), some (.int x2)] [] (md A0 g h q v f) 0 0
  refine hC.1 0 0 _ _ rfl _ _ _ _ _ ?_
  refine pq_aload_n0 (qgm_wasColours ?_)
  have k160 : (160 : Int32).toInt = 160 := rfl
  refine pq_sipush (pq_iload_n1 ?_)
  have k40 : (40 : Int32).toInt = 40 := rfl
  refine pq_bipush (pq_irem ?_)
  refine And.intro (by decide) ?_
  intro m1 em_10
  try have e1 := pm_rem x1 (40 : Int32) (by omega) (by omega)
  try rw [← em_10] at e1
  refine pq_imul ?_
  intro m2 em_11
  try have e2 : m2.toInt = (160) * (m1).toInt := by rw [em_11]; exact pm_mulk _ _ (160) rfl (by omega) (by omega)
  refine pq_iload_n2 (pq_iadd ?_)
  intro m3 em_13
  try have e3 : m3.toInt = (m2).toInt + (x2).toInt := by rw [em_13]; exact pm_add _ _ (by omega) (by omega)
  refine qlm_wasColours D (by omega) ?_
  have w4 : (0 : Int) ≤ (f 12 (m3).toInt.toNat).toInt ∧ (f 12 (m3).toInt.toNat).toInt ≤ (23 : Int) := hf 12 _
  refine pq_iret ?_
  exact ⟨rfl, fun e9 => absurd e9 (by decide), rfl, (f 12 (m3).toInt.toNat), rfl, rfl, by first | omega | (dsimp only; omega) | trivial⟩

set_option maxRecDepth 100000 in
set_option maxHeartbeats 2000000 in
theorem c_X11_wasName (D : md_D h q) (v : Nat → Int32) (f : Nat → Nat → Int32) (hv : md_V v) (hf : md_F f) (x1 : Int32) (x2 : Int32) (p0 : 0 ≤ x1.toInt) (p1 : 0 ≤ x2.toInt ∧ x2.toInt < 160) : pm_Mt l g 229 0 0 0 [.ref h, .int x1, .int x2] (md A0 g h q v f) (md_Qp (md A0 g h q v f) (fun r => True)) := by
  refine mt_X11_wasName rfl (fun J hC => ?_)
  have hv9 := hv
  unfold md_V at hv9
  have rg_x1 := pm_rng x1
  have rg_x2 := pm_rng x2
  show J 0 [some (.ref h), some (.int x1), some (.int x2)] [] (md A0 g h q v f) 0 0
  refine hC.1 0 0 _ _ rfl _ _ _ _ _ ?_
  refine pq_aload_n0 (qgm_wasNames ?_)
  have k160 : (160 : Int32).toInt = 160 := rfl
  refine pq_sipush (pq_iload_n1 ?_)
  have k40 : (40 : Int32).toInt = 40 := rfl
  refine pq_bipush (pq_irem ?_)
  refine And.intro (by decide) ?_
  intro m1 em_10
  try have e1 := pm_rem x1 (40 : Int32) (by omega) (by omega)
  try rw [← em_10] at e1
  refine pq_imul ?_
  intro m2 em_11
  try have e2 : m2.toInt = (160) * (m1).toInt := by rw [em_11]; exact pm_mulk _ _ (160) rfl (by omega) (by omega)
  refine pq_iload_n2 (pq_iadd ?_)
  intro m3 em_13
  try have e3 : m3.toInt = (m2).toInt + (x2).toInt := by rw [em_13]; exact pm_add _ _ (by omega) (by omega)
  refine qlm_wasNames D (by omega) (pq_iret ?_)
  exact ⟨rfl, fun e9 => absurd e9 (by decide), rfl, (f 13 (m3).toInt.toNat), rfl, rfl, by exact True.intro⟩

set_option maxRecDepth 100000 in
set_option maxHeartbeats 2000000 in
theorem c_X11_wasBond (D : md_D h q) (v : Nat → Int32) (f : Nat → Nat → Int32) (hv : md_V v) (hf : md_F f) (x1 : Int32) (x2 : Int32) (p0 : 0 ≤ x1.toInt) (p1 : 0 ≤ x2.toInt ∧ x2.toInt < 160) : pm_Mt l g 230 1 0 0 [.ref h, .int x1, .int x2] (md A0 g h q v f) (md_Qp (md A0 g h q v f) (fun r => True)) := by
  refine mt_X11_wasBond rfl (fun J hC => ?_)
  have hv9 := hv
  unfold md_V at hv9
  have rg_x1 := pm_rng x1
  have rg_x2 := pm_rng x2
  show J 0 [some (.ref h), some (.int x1), some (.int x2), none] [] (md A0 g h q v f) 0 0
  refine hC.1 0 0 _ _ rfl _ _ _ _ _ ?_
  refine pq_iload_n2 ?_
  have k1 : (1 : Int32).toInt = 1 := rfl
  refine pq_iconst (pq_isub ?_)
  intro m1 em_2
  try have e1 : m1.toInt = (x2).toInt - (1) := by rw [em_2]; exact pm_subc _ _ (1) rfl (by omega) (by omega)
  refine pq_istore_n [some (.ref h), some (.int x1), some (.int x2), some (.int m1)] rfl (pq_nil ?_)
  have lp2 : ∀ (n : Nat) (z3_4 : Int32), (-1 ≤ z3_4.toInt ∧ z3_4.toInt < 160) → z3_4.toInt + 1 < (n : Int) → J 4 [some (.ref h), some (.int x1), some (.int x2), some (.int z3_4)] [] (md A0 g h q v f) 0 0 := by
    intro n
    induction n with
    | zero =>
      intro z3_4 j0_4 j1_4
      omega
    | succ n ih3 =>
      intro z3_4 j0_4 j1_4
      refine hC.1 1 4 _ _ rfl _ _ _ _ _ ?_
      refine pq_iload_n3 (pq_icond_lt ?_)
      refine And.intro (fun c4 => ?_) (fun c4 => ?_)
      · skip
        refine hC.1 3 36 _ _ rfl _ _ _ _ _ ?_
        have km1 : (-1 : Int32).toInt = -1 := rfl
        refine pq_iconst (pq_iret ?_)
        exact ⟨rfl, fun e9 => absurd e9 (by decide), rfl, (-1 : Int32), rfl, rfl, by exact True.intro⟩
      · skip
        refine pq_aload_n0 (pq_iload_n1 (pq_iload_n3 (pq_iv2_11 ?_)))
        refine And.intro (Exists.intro _ md_o) (Exists.intro _ (Exists.intro _ (Exists.intro _ (Exists.intro _ (And.intro (c_X11_wasColour D v f hv hf x1 z3_4 (by omega) (by omega)) (And.intro rfl (fun r9 A9 h9 => ?_)))))))
        obtain ⟨y5, rfl, rfl, by5⟩ := h9
        refine pq_id1 (pq_aload_n0 (pq_iload_n1 (pq_iload_n2 (pq_iv2_11 ?_))))
        refine And.intro (Exists.intro _ md_o) (Exists.intro _ (Exists.intro _ (Exists.intro _ (Exists.intro _ (And.intro (c_X11_wasColour D v f hv hf x1 x2 (by omega) (by omega)) (And.intro rfl (fun r9 A9 h9 => ?_)))))))
        obtain ⟨y6, rfl, rfl, by6⟩ := h9
        refine pq_id1 (pq_icmp_ne ?_)
        refine And.intro (fun c7 => ?_) (fun c7 => ?_)
        · skip
          have dc7 := pm_neI c7
          refine hC.1 2 30 _ _ rfl _ _ _ _ _ ?_
          have km1 : (-1 : Int32).toInt = -1 := rfl
          refine pq_iinc (fun zm_9 => [some (.ref h), some (.int x1), some (.int x2), some (.int zm_9)]) rfl (fun _ => rfl) ?_
          intro m8 em_30
          try have e8 : m8.toInt = (z3_4).toInt + (-1) := by rw [em_30]; exact pm_addc _ _ (-1) rfl (by omega) (by omega)
          refine pq_goto ?_
          exact ih3 m8 (by omega) (by omega)
        · skip
          have dc7 : (y5).toInt = (y6 : Int32).toInt := congrArg Int32.toInt c7
          refine pq_aload_n0 (pq_iload_n1 (pq_iload_n3 (pq_iv2_11 ?_)))
          refine And.intro (Exists.intro _ md_o) (Exists.intro _ (Exists.intro _ (Exists.intro _ (Exists.intro _ (And.intro (c_X11_wasName D v f hv hf x1 z3_4 (by omega) (by omega)) (And.intro rfl (fun r9 A9 h9 => ?_)))))))
          obtain ⟨y9, rfl, rfl, by9⟩ := h9
          refine pq_id1 (pq_iret ?_)
          exact ⟨rfl, fun e9 => absurd e9 (by decide), rfl, y9, rfl, rfl, by exact True.intro⟩
  exact lp2 (m1.toInt + 1).toNat.succ m1 (by omega) (by omega)

set_option maxRecDepth 100000 in
set_option maxHeartbeats 2000000 in
theorem c_X11_wasPlace (D : md_D h q) (v : Nat → Int32) (f : Nat → Nat → Int32) (hv : md_V v) (hf : md_F f) (x1 : Int32) (x2 : Int32) (p0 : 0 ≤ x1.toInt) : pm_Mt l g 236 1 0 0 [.ref h, .int x1, .int x2] (md A0 g h q v f) (md_Qp (md A0 g h q v f) (fun r => -1 ≤ r.toInt ∧ r.toInt < 160)) := by
  refine mt_X11_wasPlace rfl (fun J hC => ?_)
  have hv9 := hv
  unfold md_V at hv9
  have rg_x1 := pm_rng x1
  have rg_x2 := pm_rng x2
  show J 0 [some (.ref h), some (.int x1), some (.int x2), none] [] (md A0 g h q v f) 0 0
  refine hC.1 0 0 _ _ rfl _ _ _ _ _ ?_
  have k0 : (0 : Int32).toInt = 0 := rfl
  refine pq_iconst (pq_istore_n [some (.ref h), some (.int x1), some (.int x2), some (.int (0 : Int32))] rfl (pq_nil ?_))
  have lp1 : ∀ (n : Nat) (z3_2 : Int32), (0 ≤ z3_2.toInt ∧ z3_2.toInt ≤ 160) → 200 - z3_2.toInt < (n : Int) → J 2 [some (.ref h), some (.int x1), some (.int x2), some (.int z3_2)] [] (md A0 g h q v f) 0 0 := by
    intro n
    induction n with
    | zero =>
      intro z3_2 j0_2 j1_2
      omega
    | succ n ih2 =>
      intro z3_2 j0_2 j1_2
      refine hC.1 1 2 _ _ rfl _ _ _ _ _ ?_
      refine pq_iload_n3 (pq_aload_n0 (qgm_wasMany (pq_iload_n1 ?_)))
      have k40 : (40 : Int32).toInt = 40 := rfl
      refine pq_bipush (pq_irem ?_)
      refine And.intro (by decide) ?_
      intro m3 em_10
      try have e3 := pm_rem x1 (40 : Int32) (by omega) (by omega)
      try rw [← em_10] at e3
      refine qlm_wasMany D (by omega) ?_
      have w4 : (0 : Int) ≤ (f 14 (m3).toInt.toNat).toInt ∧ (f 14 (m3).toInt.toNat).toInt ≤ (160 : Int) := hf 14 _
      refine pq_icmp_ge ?_
      refine And.intro (fun c5 => ?_) (fun c5 => ?_)
      · skip
        refine hC.1 3 33 _ _ rfl _ _ _ _ _ ?_
        have km1 : (-1 : Int32).toInt = -1 := rfl
        refine pq_iconst (pq_iret ?_)
        exact ⟨rfl, fun e9 => absurd e9 (by decide), rfl, (-1 : Int32), rfl, rfl, by first | omega | (dsimp only; omega) | trivial⟩
      · skip
        refine pq_aload_n0 (pq_iload_n1 (pq_iload_n3 (pq_iv2_11 ?_)))
        refine And.intro (Exists.intro _ md_o) (Exists.intro _ (Exists.intro _ (Exists.intro _ (Exists.intro _ (And.intro (c_X11_wasName D v f hv hf x1 z3_2 (by omega) (by omega)) (And.intro rfl (fun r9 A9 h9 => ?_)))))))
        obtain ⟨y6, rfl, rfl, by6⟩ := h9
        refine pq_id1 (pq_iload_n2 (pq_icmp_ne ?_))
        refine And.intro (fun c7 => ?_) (fun c7 => ?_)
        · skip
          have dc7 := pm_neI c7
          refine hC.1 2 27 _ _ rfl _ _ _ _ _ ?_
          have k1 : (1 : Int32).toInt = 1 := rfl
          refine pq_iinc (fun zm_9 => [some (.ref h), some (.int x1), some (.int x2), some (.int zm_9)]) rfl (fun _ => rfl) ?_
          intro m8 em_27
          try have e8 : m8.toInt = (z3_2).toInt + (1) := by rw [em_27]; exact pm_addc _ _ (1) rfl (by omega) (by omega)
          refine pq_goto ?_
          exact ih2 m8 (by omega) (by omega)
        · skip
          have dc7 : (y6).toInt = (x2 : Int32).toInt := congrArg Int32.toInt c7
          refine pq_iload_n3 (pq_iret ?_)
          exact ⟨rfl, fun e9 => absurd e9 (by decide), rfl, z3_2, rfl, rfl, by first | omega | (dsimp only; omega) | trivial⟩
  exact lp1 (200 - (0 : Int32).toInt).toNat.succ (0 : Int32) (by omega) (by omega)

set_option maxRecDepth 100000 in
set_option maxHeartbeats 2000000 in
theorem c_X11_wasSet (D : md_D h q) (v : Nat → Int32) (f : Nat → Nat → Int32) (hv : md_V v) (hf : md_F f) (x1 : Int32) (x2 : Int32) (x3 : Int32) (p0 : 0 ≤ x1.toInt) (p1 : 0 ≤ x2.toInt ∧ x2.toInt ≤ 160) (p2 : -1 ≤ x3.toInt ∧ x3.toInt < 160) : pm_Mt l g 232 1 0 0 [.ref h, .int x1, .int x2, .int x3] (md A0 g h q v f) (md_Qp (md A0 g h q v f) (fun r => True)) := by
  refine mt_X11_wasSet rfl (fun J hC => ?_)
  have hv9 := hv
  unfold md_V at hv9
  have rg_x1 := pm_rng x1
  have rg_x2 := pm_rng x2
  have rg_x3 := pm_rng x3
  show J 0 [some (.ref h), some (.int x1), some (.int x2), some (.int x3), none, none] [] (md A0 g h q v f) 0 0
  refine hC.1 0 0 _ _ rfl _ _ _ _ _ ?_
  have k0 : (0 : Int32).toInt = 0 := rfl
  refine pq_iconst (pq_istore [some (.ref h), some (.int x1), some (.int x2), some (.int x3), some (.int (0 : Int32)), none] rfl (pq_iload_n2 (pq_istore [some (.ref h), some (.int x1), some (.int x2), some (.int x3), some (.int (0 : Int32)), some (.int x2)] rfl (pq_nil ?_))))
  have lp1 : ∀ (n : Nat) (z4_6 : Int32) (z5_6 : Int32), (0 ≤ z5_6.toInt ∧ z5_6.toInt ≤ 161) → 200 - z5_6.toInt < (n : Int) → J 6 [some (.ref h), some (.int x1), some (.int x2), some (.int x3), some (.int z4_6), some (.int z5_6)] [] (md A0 g h q v f) 0 0 := by
    intro n
    induction n with
    | zero =>
      intro z4_6 z5_6 j0_6 j1_6
      omega
    | succ n ih2 =>
      intro z4_6 z5_6 j0_6 j1_6
      refine hC.1 1 6 _ _ rfl _ _ _ _ _ ?_
      refine pq_iload5 (pq_iload_n3 (pq_icmp_gt ?_))
      refine And.intro (fun c3 => ?_) (fun c3 => ?_)
      · skip
        refine hC.1 2 32 _ _ rfl _ _ _ _ _ ?_
        refine pq_iload4 (pq_iret ?_)
        exact ⟨rfl, fun e9 => absurd e9 (by decide), rfl, z4_6, rfl, rfl, by exact True.intro⟩
      · skip
        refine pq_iload4 ?_
        have k1 : (1 : Int32).toInt = 1 := rfl
        refine pq_iconst (pq_aload_n0 (pq_iload_n1 (pq_iload5 (pq_iv2_11 ?_))))
        refine And.intro (Exists.intro _ md_o) (Exists.intro _ (Exists.intro _ (Exists.intro _ (Exists.intro _ (And.intro (c_X11_wasColour D v f hv hf x1 z5_6 (by omega) (by omega)) (And.intro rfl (fun r9 A9 h9 => ?_)))))))
        obtain ⟨y4, rfl, rfl, by4⟩ := h9
        refine pq_id1 (pq_ishl (pq_ior (pq_istore [some (.ref h), some (.int x1), some (.int x2), some (.int x3), some (.int (z4_6 ||| ((1 : Int32) <<< (y4 &&& 31)))), some (.int z5_6)] rfl (pq_iinc (fun zm_9 => [some (.ref h), some (.int x1), some (.int x2), some (.int x3), some (.int (z4_6 ||| ((1 : Int32) <<< (y4 &&& 31)))), some (.int zm_9)]) rfl (fun _ => rfl) ?_))))
        intro m5 em_26
        try have e5 : m5.toInt = (z5_6).toInt + (1) := by rw [em_26]; exact pm_addc _ _ (1) rfl (by omega) (by omega)
        refine pq_goto ?_
        exact ih2 (z4_6 ||| ((1 : Int32) <<< (y4 &&& 31))) m5 (by omega) (by omega)
  exact lp1 (200 - x2.toInt).toNat.succ (0 : Int32) x2 (by omega) (by omega)

set_option maxRecDepth 100000 in
set_option maxHeartbeats 2000000 in
theorem c_X11_was (D : md_D h q) (v : Nat → Int32) (f : Nat → Nat → Int32) (hv : md_V v) (hf : md_F f) (x1 : Int32) (x2 : Int32) (x3 : Int32)  : pm_Mt l g 226 2 0 0 [.ref h, .int x1, .int x2, .int x3] (md A0 g h q v f) (md_Qp (md A0 g h q v f) (fun r => True)) := by
  refine mt_X11_was rfl (fun J hC => ?_)
  have hv9 := hv
  unfold md_V at hv9
  have rg_x1 := pm_rng x1
  have rg_x2 := pm_rng x2
  have rg_x3 := pm_rng x3
  show J 0 [some (.ref h), some (.int x1), some (.int x2), some (.int x3), none] [] (md A0 g h q v f) 0 0
  refine hC.1 0 0 _ _ rfl _ _ _ _ _ ?_
  refine pq_aload_n0 (pq_iload_n1 (pq_iv1_11 ?_))
  refine And.intro (Exists.intro _ md_o) (Exists.intro _ (Exists.intro _ (Exists.intro _ (Exists.intro _ (And.intro (c_X11_isKnown D v f hv hf x1 ) (And.intro rfl (fun r9 A9 h9 => ?_)))))))
  rcases h9 with ⟨y1, rfl, rfl, ⟨rfl, by1⟩ | ⟨rfl, by1⟩⟩
  · skip
    have k1 : (1 : Int32).toInt = 1 := rfl
    refine pq_id1 (pq_icond_ne ?_)
    refine And.intro (fun _ => ?_) (fun c9 => absurd c9 (by decide))
    refine hC.1 1 10 _ _ rfl _ _ _ _ _ ?_
    refine pq_aload_n0 (qgm_wasMany (pq_iload_n1 ?_))
    have k40 : (40 : Int32).toInt = 40 := rfl
    refine pq_bipush (pq_irem ?_)
    refine And.intro (by decide) ?_
    intro m2 em_17
    try have e2 := pm_rem x1 (40 : Int32) (by omega) (by omega)
    try rw [← em_17] at e2
    refine qlm_wasMany D (by omega) ?_
    have w3 : (0 : Int) ≤ (f 14 (m2).toInt.toNat).toInt ∧ (f 14 (m2).toInt.toNat).toInt ≤ (160 : Int) := hf 14 _
    refine pq_istore [some (.ref h), some (.int x1), some (.int x2), some (.int x3), some (.int (f 14 (m2).toInt.toNat))] rfl (pq_iload_n2 ?_)
    have km1 : (-1 : Int32).toInt = -1 := rfl
    refine pq_iconst (pq_icmp_ne ?_)
    refine And.intro (fun c4 => ?_) (fun c4 => ?_)
    · skip
      have dc4 := pm_neI c4
      refine hC.1 2 29 _ _ rfl _ _ _ _ _ ?_
      refine pq_iload_n2 ?_
      have k0 : (0 : Int32).toInt = 0 := rfl
      refine pq_iconst (pq_iload4 (pq_iconst (pq_isub ?_)))
      intro m5 em_34
      try have e5 : m5.toInt = ((f 14 (m2).toInt.toNat)).toInt - (1) := by rw [em_34]; exact pm_subc _ _ (1) rfl (by omega) (by omega)
      refine pq_is3 ?_
      refine Exists.intro _ (Exists.intro _ (Exists.intro _ (Exists.intro _ (And.intro (c_X11_isIn (md A0 g h q v f) x2 (0 : Int32) m5 ) (And.intro rfl (fun r9 A9 h9 => ?_))))))
      rcases h9 with ⟨y6, rfl, rfl, ⟨rfl, by6⟩ | ⟨rfl, by6⟩⟩
      · skip
        refine pq_id1 (pq_icond_ne ?_)
        refine And.intro (fun _ => ?_) (fun c9 => absurd c9 (by decide))
        refine hC.1 3 43 _ _ rfl _ _ _ _ _ ?_
        refine pq_iload_n3 (pq_icond_ne ?_)
        refine And.intro (fun c7 => ?_) (fun c7 => ?_)
        · skip
          have dc7 := pm_neI c7
          refine hC.1 4 56 _ _ rfl _ _ _ _ _ ?_
          refine pq_iload_n3 (pq_iconst (pq_icmp_ne ?_))
          refine And.intro (fun c8 => ?_) (fun c8 => ?_)
          · skip
            have dc8 := pm_neI c8
            refine hC.1 5 70 _ _ rfl _ _ _ _ _ ?_
            refine pq_iload_n3 ?_
            have k2 : (2 : Int32).toInt = 2 := rfl
            refine pq_iconst (pq_icmp_ne ?_)
            refine And.intro (fun c9 => ?_) (fun c9 => ?_)
            · skip
              have dc9 := pm_neI c9
              refine hC.1 6 84 _ _ rfl _ _ _ _ _ ?_
              refine pq_iconst (pq_nil ?_)
              refine hC.1 7 85 _ _ rfl _ _ _ _ _ ?_
              refine pq_iret ?_
              exact ⟨rfl, fun e9 => absurd e9 (by decide), rfl, (-1 : Int32), rfl, rfl, by exact True.intro⟩
            · skip
              have dc9 : (x3).toInt = ((2 : Int32) : Int32).toInt := congrArg Int32.toInt c9
              refine pq_aload_n0 (pq_iload_n1 (pq_iload_n2 (pq_iv2_11 ?_)))
              refine And.intro (Exists.intro _ md_o) (Exists.intro _ (Exists.intro _ (Exists.intro _ (Exists.intro _ (And.intro (c_X11_wasBond D v f hv hf x1 x2 (by omega) (by omega)) (And.intro rfl (fun r9 A9 h9 => ?_)))))))
              obtain ⟨y10, rfl, rfl, by10⟩ := h9
              refine pq_id1 (pq_goto ?_)
              refine hC.1 7 85 _ _ rfl _ _ _ _ _ ?_
              refine pq_iret ?_
              exact ⟨rfl, fun e9 => absurd e9 (by decide), rfl, y10, rfl, rfl, by exact True.intro⟩
          · skip
            have dc8 : (x3).toInt = ((1 : Int32) : Int32).toInt := congrArg Int32.toInt c8
            refine pq_aload_n0 (pq_iload_n1 (pq_iload_n2 (pq_iv2_11 ?_)))
            refine And.intro (Exists.intro _ md_o) (Exists.intro _ (Exists.intro _ (Exists.intro _ (Exists.intro _ (And.intro (c_X11_wasName D v f hv hf x1 x2 (by omega) (by omega)) (And.intro rfl (fun r9 A9 h9 => ?_)))))))
            obtain ⟨y11, rfl, rfl, by11⟩ := h9
            refine pq_id1 (pq_goto ?_)
            refine hC.1 7 85 _ _ rfl _ _ _ _ _ ?_
            refine pq_iret ?_
            exact ⟨rfl, fun e9 => absurd e9 (by decide), rfl, y11, rfl, rfl, by exact True.intro⟩
        · skip
          have dc7 : (x3).toInt = (0 : Int32).toInt := congrArg Int32.toInt c7
          refine pq_aload_n0 (pq_iload_n1 (pq_iload_n2 (pq_iv2_11 ?_)))
          refine And.intro (Exists.intro _ md_o) (Exists.intro _ (Exists.intro _ (Exists.intro _ (Exists.intro _ (And.intro (c_X11_wasColour D v f hv hf x1 x2 (by omega) (by omega)) (And.intro rfl (fun r9 A9 h9 => ?_)))))))
          obtain ⟨y12, rfl, rfl, by12⟩ := h9
          refine pq_id1 (pq_goto ?_)
          refine hC.1 7 85 _ _ rfl _ _ _ _ _ ?_
          refine pq_iret ?_
          exact ⟨rfl, fun e9 => absurd e9 (by decide), rfl, y12, rfl, rfl, by exact True.intro⟩
      · skip
        refine pq_id1 (pq_icond_ne ?_)
        refine And.intro (fun c9 => absurd c9 (by decide)) (fun _ => ?_)
        refine pq_iconst (pq_iret ?_)
        exact ⟨rfl, fun e9 => absurd e9 (by decide), rfl, (-1 : Int32), rfl, rfl, by exact True.intro⟩
    · skip
      have dc4 : (x2).toInt = ((-1 : Int32) : Int32).toInt := congrArg Int32.toInt c4
      refine pq_iload4 (pq_iret ?_)
      exact ⟨rfl, fun e9 => absurd e9 (by decide), rfl, (f 14 (m2).toInt.toNat), rfl, rfl, by exact True.intro⟩
  · skip
    have k0 : (0 : Int32).toInt = 0 := rfl
    refine pq_id1 (pq_icond_ne ?_)
    refine And.intro (fun c9 => absurd c9 (by decide)) (fun _ => ?_)
    have km1 : (-1 : Int32).toInt = -1 := rfl
    refine pq_iconst (pq_iret ?_)
    exact ⟨rfl, fun e9 => absurd e9 (by decide), rfl, (-1 : Int32), rfl, rfl, by exact True.intro⟩

set_option maxRecDepth 100000 in
set_option maxHeartbeats 2000000 in
theorem c_X11_counted (D : md_D h q) (v : Nat → Int32) (f : Nat → Nat → Int32) (hv : md_V v) (hf : md_F f) (x1 : Int32) (x2 : Int32) (x3 : Int32)  : pm_Mt l g 231 2 0 0 [.ref h, .int x1, .int x2, .int x3] (md A0 g h q v f) (md_Qp (md A0 g h q v f) (fun r => True)) := by
  refine mt_X11_counted rfl (fun J hC => ?_)
  have hv9 := hv
  unfold md_V at hv9
  have rg_x1 := pm_rng x1
  have rg_x2 := pm_rng x2
  have rg_x3 := pm_rng x3
  show J 0 [some (.ref h), some (.int x1), some (.int x2), some (.int x3)] [] (md A0 g h q v f) 0 0
  refine hC.1 0 0 _ _ rfl _ _ _ _ _ ?_
  refine pq_aload_n0 (pq_iload_n1 (pq_iv1_11 ?_))
  refine And.intro (Exists.intro _ md_o) (Exists.intro _ (Exists.intro _ (Exists.intro _ (Exists.intro _ (And.intro (c_X11_isKnown D v f hv hf x1 ) (And.intro rfl (fun r9 A9 h9 => ?_)))))))
  rcases h9 with ⟨y1, rfl, rfl, ⟨rfl, by1⟩ | ⟨rfl, by1⟩⟩
  · skip
    have k1 : (1 : Int32).toInt = 1 := rfl
    refine pq_id1 (pq_icond_eq ?_)
    refine And.intro (fun c9 => absurd c9 (by decide)) (fun _ => ?_)
    refine pq_iload_n2 (pq_icond_lt ?_)
    refine And.intro (fun c2 => ?_) (fun c2 => ?_)
    · skip
      refine hC.1 1 43 _ _ rfl _ _ _ _ _ ?_
      have km1 : (-1 : Int32).toInt = -1 := rfl
      refine pq_iconst (pq_nil ?_)
      refine hC.1 2 44 _ _ rfl _ _ _ _ _ ?_
      refine pq_iret ?_
      exact ⟨rfl, fun e9 => absurd e9 (by decide), rfl, (-1 : Int32), rfl, rfl, by exact True.intro⟩
    · skip
      refine pq_iload_n2 (pq_iload_n3 (pq_icmp_gt ?_))
      refine And.intro (fun c3 => ?_) (fun c3 => ?_)
      · skip
        refine hC.1 1 43 _ _ rfl _ _ _ _ _ ?_
        have km1 : (-1 : Int32).toInt = -1 := rfl
        refine pq_iconst (pq_nil ?_)
        refine hC.1 2 44 _ _ rfl _ _ _ _ _ ?_
        refine pq_iret ?_
        exact ⟨rfl, fun e9 => absurd e9 (by decide), rfl, (-1 : Int32), rfl, rfl, by exact True.intro⟩
      · skip
        refine pq_iload_n3 (pq_aload_n0 (qgm_wasMany (pq_iload_n1 ?_)))
        have k40 : (40 : Int32).toInt = 40 := rfl
        refine pq_bipush (pq_irem ?_)
        refine And.intro (by decide) ?_
        intro m4 em_25
        try have e4 := pm_rem x1 (40 : Int32) (by omega) (by omega)
        try rw [← em_25] at e4
        refine qlm_wasMany D (by omega) ?_
        have w5 : (0 : Int) ≤ (f 14 (m4).toInt.toNat).toInt ∧ (f 14 (m4).toInt.toNat).toInt ≤ (160 : Int) := hf 14 _
        refine pq_icmp_ge ?_
        refine And.intro (fun c6 => ?_) (fun c6 => ?_)
        · skip
          refine hC.1 1 43 _ _ rfl _ _ _ _ _ ?_
          have km1 : (-1 : Int32).toInt = -1 := rfl
          refine pq_iconst (pq_nil ?_)
          refine hC.1 2 44 _ _ rfl _ _ _ _ _ ?_
          refine pq_iret ?_
          exact ⟨rfl, fun e9 => absurd e9 (by decide), rfl, (-1 : Int32), rfl, rfl, by exact True.intro⟩
        · skip
          refine pq_aload_n0 (pq_iload_n1 (pq_iload_n2 (pq_iload_n3 (pq_iv3_11 ?_))))
          refine And.intro (Exists.intro _ md_o) (Exists.intro _ (Exists.intro _ (Exists.intro _ (Exists.intro _ (And.intro (c_X11_wasSet D v f hv hf x1 x2 x3 (by omega) (by omega) (by omega)) (And.intro rfl (fun r9 A9 h9 => ?_)))))))
          obtain ⟨y7, rfl, rfl, by7⟩ := h9
          refine pq_id1 (pq_is1 ?_)
          refine Exists.intro _ (Exists.intro _ (Exists.intro _ (Exists.intro _ (And.intro (c_X11_bits (md A0 g h q v f) y7 ) (And.intro rfl (fun r9 A9 h9 => ?_))))))
          obtain ⟨y8, rfl, rfl, by8⟩ := h9
          refine pq_id1 (pq_goto ?_)
          refine hC.1 2 44 _ _ rfl _ _ _ _ _ ?_
          refine pq_iret ?_
          exact ⟨rfl, fun e9 => absurd e9 (by decide), rfl, y8, rfl, rfl, by exact True.intro⟩
  · skip
    have k0 : (0 : Int32).toInt = 0 := rfl
    refine pq_id1 (pq_icond_eq ?_)
    refine And.intro (fun _ => ?_) (fun c9 => absurd c9 (by decide))
    refine hC.1 1 43 _ _ rfl _ _ _ _ _ ?_
    have km1 : (-1 : Int32).toInt = -1 := rfl
    refine pq_iconst (pq_nil ?_)
    refine hC.1 2 44 _ _ rfl _ _ _ _ _ ?_
    refine pq_iret ?_
    exact ⟨rfl, fun e9 => absurd e9 (by decide), rfl, (-1 : Int32), rfl, rfl, by exact True.intro⟩

set_option maxRecDepth 100000 in
set_option maxHeartbeats 2000000 in
theorem c_X11_touched (D : md_D h q) (v : Nat → Int32) (f : Nat → Nat → Int32) (hv : md_V v) (hf : md_F f) (x1 : Int32)  : pm_Mt l g 233 1 0 0 [.ref h, .int x1] (md A0 g h q v f) (md_Qp (md A0 g h q v f) (fun r => True)) := by
  refine mt_X11_touched rfl (fun J hC => ?_)
  have hv9 := hv
  unfold md_V at hv9
  have rg_x1 := pm_rng x1
  show J 0 [some (.ref h), some (.int x1)] [] (md A0 g h q v f) 0 0
  refine hC.1 0 0 _ _ rfl _ _ _ _ _ ?_
  refine pq_iload_n1 (pq_icond_le ?_)
  refine And.intro (fun c1 => ?_) (fun c1 => ?_)
  · skip
    refine hC.1 1 24 _ _ rfl _ _ _ _ _ ?_
    have km1 : (-1 : Int32).toInt = -1 := rfl
    refine pq_iconst (pq_nil ?_)
    refine hC.1 2 25 _ _ rfl _ _ _ _ _ ?_
    refine pq_iret ?_
    exact ⟨rfl, fun e9 => absurd e9 (by decide), rfl, (-1 : Int32), rfl, rfl, by exact True.intro⟩
  · skip
    refine pq_aload_n0 (pq_iload_n1 (pq_iv1_11 ?_))
    refine And.intro (Exists.intro _ md_o) (Exists.intro _ (Exists.intro _ (Exists.intro _ (Exists.intro _ (And.intro (c_X11_isKnown D v f hv hf x1 ) (And.intro rfl (fun r9 A9 h9 => ?_)))))))
    rcases h9 with ⟨y2, rfl, rfl, ⟨rfl, by2⟩ | ⟨rfl, by2⟩⟩
    · skip
      have k1 : (1 : Int32).toInt = 1 := rfl
      refine pq_id1 (pq_icond_eq ?_)
      refine And.intro (fun c9 => absurd c9 (by decide)) (fun _ => ?_)
      refine pq_aload_n0 (qgm_wasTouched (pq_iload_n1 ?_))
      have k40 : (40 : Int32).toInt = 40 := rfl
      refine pq_bipush (pq_irem ?_)
      refine And.intro (by decide) ?_
      intro m3 em_19
      try have e3 := pm_rem x1 (40 : Int32) (by omega) (by omega)
      try rw [← em_19] at e3
      refine qlm_wasTouched D (by omega) (pq_goto ?_)
      refine hC.1 2 25 _ _ rfl _ _ _ _ _ ?_
      refine pq_iret ?_
      exact ⟨rfl, fun e9 => absurd e9 (by decide), rfl, (f 15 (m3).toInt.toNat), rfl, rfl, by exact True.intro⟩
    · skip
      have k0 : (0 : Int32).toInt = 0 := rfl
      refine pq_id1 (pq_icond_eq ?_)
      refine And.intro (fun _ => ?_) (fun c9 => absurd c9 (by decide))
      refine hC.1 1 24 _ _ rfl _ _ _ _ _ ?_
      have km1 : (-1 : Int32).toInt = -1 := rfl
      refine pq_iconst (pq_nil ?_)
      refine hC.1 2 25 _ _ rfl _ _ _ _ _ ?_
      refine pq_iret ?_
      exact ⟨rfl, fun e9 => absurd e9 (by decide), rfl, (-1 : Int32), rfl, rfl, by exact True.intro⟩

set_option maxRecDepth 100000 in
set_option maxHeartbeats 2000000 in
theorem c_X11_hadBond (D : md_D h q) (v : Nat → Int32) (f : Nat → Nat → Int32) (hv : md_V v) (hf : md_F f) (x1 : Int32) (x2 : Int32) (x3 : Int32) (p0 : 0 ≤ x1.toInt) : pm_Mt l g 235 2 0 0 [.ref h, .int x1, .int x2, .int x3] (md A0 g h q v f) (md_Qp (md A0 g h q v f) (fun r => (r = 1 ∧ (True)) ∨ (r = 0 ∧ (True)))) := by
  refine mt_X11_hadBond rfl (fun J hC => ?_)
  have hv9 := hv
  unfold md_V at hv9
  have rg_x1 := pm_rng x1
  have rg_x2 := pm_rng x2
  have rg_x3 := pm_rng x3
  show J 0 [some (.ref h), some (.int x1), some (.int x2), some (.int x3), none] [] (md A0 g h q v f) 0 0
  refine hC.1 0 0 _ _ rfl _ _ _ _ _ ?_
  refine pq_aload_n0 (pq_iload_n1 (pq_iload_n2 (pq_iv2_11 ?_)))
  refine And.intro (Exists.intro _ md_o) (Exists.intro _ (Exists.intro _ (Exists.intro _ (Exists.intro _ (And.intro (c_X11_wasPlace D v f hv hf x1 x2 (by omega)) (And.intro rfl (fun r9 A9 h9 => ?_)))))))
  obtain ⟨y1, rfl, rfl, by1⟩ := h9
  refine pq_id1 (pq_istore [some (.ref h), some (.int x1), some (.int x2), some (.int x3), some (.int y1)] rfl (pq_iload4 (pq_icond_lt ?_)))
  refine And.intro (fun c2 => ?_) (fun c2 => ?_)
  · skip
    refine hC.1 1 28 _ _ rfl _ _ _ _ _ ?_
    have k0 : (0 : Int32).toInt = 0 := rfl
    refine pq_iconst (pq_nil ?_)
    refine hC.1 2 29 _ _ rfl _ _ _ _ _ ?_
    refine pq_iret ?_
    exact ⟨rfl, fun _ => (by decide), rfl, (0 : Int32), rfl, rfl, Or.inr ⟨rfl, by first | omega | (dsimp only; omega) | trivial⟩⟩
  · skip
    refine pq_aload_n0 (pq_iload_n1 (pq_iload4 (pq_iv2_11 ?_)))
    refine And.intro (Exists.intro _ md_o) (Exists.intro _ (Exists.intro _ (Exists.intro _ (Exists.intro _ (And.intro (c_X11_wasBond D v f hv hf x1 y1 (by omega) (by omega)) (And.intro rfl (fun r9 A9 h9 => ?_)))))))
    obtain ⟨y3, rfl, rfl, by3⟩ := h9
    refine pq_id1 (pq_iload_n3 (pq_icmp_ne ?_))
    refine And.intro (fun c4 => ?_) (fun c4 => ?_)
    · skip
      have dc4 := pm_neI c4
      refine hC.1 1 28 _ _ rfl _ _ _ _ _ ?_
      have k0 : (0 : Int32).toInt = 0 := rfl
      refine pq_iconst (pq_nil ?_)
      refine hC.1 2 29 _ _ rfl _ _ _ _ _ ?_
      refine pq_iret ?_
      exact ⟨rfl, fun _ => (by decide), rfl, (0 : Int32), rfl, rfl, Or.inr ⟨rfl, by first | omega | (dsimp only; omega) | trivial⟩⟩
    · skip
      have dc4 : (y3).toInt = (x3 : Int32).toInt := congrArg Int32.toInt c4
      have k1 : (1 : Int32).toInt = 1 := rfl
      refine pq_iconst (pq_goto ?_)
      refine hC.1 2 29 _ _ rfl _ _ _ _ _ ?_
      refine pq_iret ?_
      exact ⟨rfl, fun _ => (by decide), rfl, (1 : Int32), rfl, rfl, Or.inl ⟨rfl, by first | omega | (dsimp only; omega) | trivial⟩⟩

end
end
section
section
variable {l : Launch} {g : pm_G} {A0 : pm_H} {h : Nat} {q : Nat → Nat}
set_option maxRecDepth 100000 in
set_option maxHeartbeats 2000000 in
theorem c_X11_isTouched (D : md_D h q) (v : Nat → Int32) (f : Nat → Nat → Int32) (hv : md_V v) (hf : md_F f) (x1 : Int32) (p0 : 0 ≤ x1.toInt ∧ x1.toInt < (v 0).toInt) : pm_Mt l g 177 2 0 0 [.ref h, .int x1] (md A0 g h q v f) (md_Qp (md A0 g h q v f) (fun r => (r = 1 ∧ (True)) ∨ (r = 0 ∧ (True)))) := by
  refine mt_X11_isTouched rfl (fun J hC => ?_)
  have hv9 := hv
  unfold md_V at hv9
  have rg_x1 := pm_rng x1
  show J 0 [some (.ref h), some (.int x1), none] [] (md A0 g h q v f) 0 0
  refine hC.1 0 0 _ _ rfl _ _ _ _ _ ?_
  have k0 : (0 : Int32).toInt = 0 := rfl
  refine pq_iconst (pq_istore_n [some (.ref h), some (.int x1), some (.int (0 : Int32))] rfl (pq_nil ?_))
  have lp1 : ∀ (n : Nat) (z2_2 : Int32), (0 ≤ z2_2.toInt ∧ z2_2.toInt ≤ (v 1).toInt) → 200 - z2_2.toInt < (n : Int) → J 2 [some (.ref h), some (.int x1), some (.int z2_2)] [] (md A0 g h q v f) 0 0 := by
    intro n
    induction n with
    | zero =>
      intro z2_2 j0_2 j1_2
      omega
    | succ n ih2 =>
      intro z2_2 j0_2 j1_2
      refine hC.1 1 2 _ _ rfl _ _ _ _ _ ?_
      refine pq_iload_n2 (pq_aload_n0 (qgm_oldMany (pq_icmp_ge ?_)))
      refine And.intro (fun c3 => ?_) (fun c3 => ?_)
      · skip
        refine hC.1 5 51 _ _ rfl _ _ _ _ _ ?_
        refine pq_iconst (pq_iret ?_)
        exact ⟨rfl, fun _ => (by decide), rfl, (0 : Int32), rfl, rfl, Or.inr ⟨rfl, by first | omega | (dsimp only; omega) | trivial⟩⟩
      · skip
        refine pq_aload_n0 (qgm_oldNames (pq_iload_n2 (qlm_oldNames D (by omega) (pq_aload_n0 (qgm_names (pq_iload_n1 (qlm_names D (by omega) (pq_icmp_ne ?_))))))))
        refine And.intro (fun c4 => ?_) (fun c4 => ?_)
        · skip
          have dc4 := pm_neI c4
          refine hC.1 4 45 _ _ rfl _ _ _ _ _ ?_
          have k1 : (1 : Int32).toInt = 1 := rfl
          refine pq_iinc (fun zm_9 => [some (.ref h), some (.int x1), some (.int zm_9)]) rfl (fun _ => rfl) ?_
          intro m5 em_45
          try have e5 : m5.toInt = (z2_2).toInt + (1) := by rw [em_45]; exact pm_addc _ _ (1) rfl (by omega) (by omega)
          refine pq_goto ?_
          exact ih2 m5 (by omega) (by omega)
        · skip
          have dc4 : ((f 3 (z2_2).toInt.toNat)).toInt = ((f 1 (x1).toInt.toNat) : Int32).toInt := congrArg Int32.toInt c4
          refine pq_aload_n0 (qgm_oldBonds (pq_iload_n2 (qlm_oldBonds D (by omega) (pq_aload_n0 (pq_iload_n1 (pq_iv1_11 ?_))))))
          refine And.intro (Exists.intro _ md_o) (Exists.intro _ (Exists.intro _ (Exists.intro _ (Exists.intro _ (And.intro (c_X11_bondOf D v f hv hf x1 (by omega)) (And.intro rfl (fun r9 A9 h9 => ?_)))))))
          obtain ⟨y6, rfl, rfl, by6⟩ := h9
          refine pq_id1 (pq_icmp_eq ?_)
          refine And.intro (fun c7 => ?_) (fun c7 => ?_)
          · skip
            have dc7 : ((f 4 (z2_2).toInt.toNat)).toInt = (y6 : Int32).toInt := congrArg Int32.toInt c7
            refine hC.1 2 43 _ _ rfl _ _ _ _ _ ?_
            refine pq_iconst (pq_nil ?_)
            refine hC.1 3 44 _ _ rfl _ _ _ _ _ ?_
            refine pq_iret ?_
            exact ⟨rfl, fun _ => (by decide), rfl, (0 : Int32), rfl, rfl, Or.inr ⟨rfl, by first | omega | (dsimp only; omega) | trivial⟩⟩
          · skip
            have dc7 := pm_neI c7
            have k1 : (1 : Int32).toInt = 1 := rfl
            refine pq_iconst (pq_goto ?_)
            refine hC.1 3 44 _ _ rfl _ _ _ _ _ ?_
            refine pq_iret ?_
            exact ⟨rfl, fun _ => (by decide), rfl, (1 : Int32), rfl, rfl, Or.inl ⟨rfl, by first | omega | (dsimp only; omega) | trivial⟩⟩
  exact lp1 (200 - (0 : Int32).toInt).toNat.succ (0 : Int32) (by omega) (by omega)

end
end
section
section
variable {l : Launch} {g : pm_G} {A0 : pm_H} {h : Nat} {q : Nat → Nat}
set_option maxRecDepth 100000 in
set_option maxHeartbeats 2000000 in
theorem c_X11_isAhead (D : md_D h q) (v : Nat → Int32) (f : Nat → Nat → Int32) (hv : md_V v) (hf : md_F f) (x1 : Int32) (x2 : Int32) (x3 : Int32) (x4 : Int32) (x5 : Int32) (p0 : 0 ≤ x1.toInt ∧ x1.toInt ≤ 23) (p1 : 0 ≤ x2.toInt ∧ x2.toInt ≤ 23) (p2 : 0 ≤ x3.toInt ∧ x3.toInt ≤ 160) (p3 : -1 ≤ x4.toInt ∧ x4.toInt < 160) : pm_Mt l g 222 1 0 0 [.ref h, .int x1, .int x2, .int x3, .int x4, .int x5] (md A0 g h q v f) (md_Qp (md A0 g h q v f) (fun r => (r = 1 ∧ (True)) ∨ (r = 0 ∧ (True)))) := by
  refine mt_X11_isAhead rfl (fun J hC => ?_)
  have hv9 := hv
  unfold md_V at hv9
  have rg_x1 := pm_rng x1
  have rg_x2 := pm_rng x2
  have rg_x3 := pm_rng x3
  have rg_x4 := pm_rng x4
  have rg_x5 := pm_rng x5
  show J 0 [some (.ref h), some (.int x1), some (.int x2), some (.int x3), some (.int x4), some (.int x5), none, none] [] (md A0 g h q v f) 0 0
  refine hC.1 0 0 _ _ rfl _ _ _ _ _ ?_
  refine pq_iload5 ?_
  have k3 : (3 : Int32).toInt = 3 := rfl
  refine pq_iconst (pq_icmp_ne ?_)
  refine And.intro (fun c1 => ?_) (fun c1 => ?_)
  · skip
    have dc1 := pm_neI c1
    refine hC.1 1 15 _ _ rfl _ _ _ _ _ ?_
    refine pq_iload5 ?_
    have k4 : (4 : Int32).toInt = 4 := rfl
    refine pq_iconst (pq_icmp_ne ?_)
    refine And.intro (fun c2 => ?_) (fun c2 => ?_)
    · skip
      have dc2 := pm_neI c2
      refine hC.1 2 32 _ _ rfl _ _ _ _ _ ?_
      have k0 : (0 : Int32).toInt = 0 := rfl
      refine pq_iconst (pq_nil ?_)
      refine hC.1 3 33 _ _ rfl _ _ _ _ _ ?_
      refine pq_istore [some (.ref h), some (.int x1), some (.int x2), some (.int x3), some (.int x4), some (.int x5), some (.int (0 : Int32)), none] rfl (pq_iload5 (pq_iconst (pq_icmp_ne ?_)))
      refine And.intro (fun c3 => ?_) (fun c3 => ?_)
      · skip
        have dc3 := pm_neI c3
        refine hC.1 4 50 _ _ rfl _ _ _ _ _ ?_
        refine pq_iload5 (pq_iconst (pq_icmp_ne ?_))
        refine And.intro (fun c4 => ?_) (fun c4 => ?_)
        · skip
          have dc4 := pm_neI c4
          refine hC.1 5 67 _ _ rfl _ _ _ _ _ ?_
          refine pq_iconst (pq_nil ?_)
          refine hC.1 6 68 _ _ rfl _ _ _ _ _ ?_
          refine pq_istore [some (.ref h), some (.int x1), some (.int x2), some (.int x3), some (.int x4), some (.int x5), some (.int (0 : Int32)), some (.int (0 : Int32))] rfl (pq_iload6 (pq_iload7 (pq_icmp_eq ?_)))
          refine And.intro (fun _ => ?_) (fun c9 => absurd c9 (by decide))
          refine hC.1 8 92 _ _ rfl _ _ _ _ _ ?_
          refine pq_iload_n1 (pq_iload_n2 (pq_icmp_ge ?_))
          refine And.intro (fun c5 => ?_) (fun c5 => ?_)
          · skip
            refine hC.1 9 101 _ _ rfl _ _ _ _ _ ?_
            refine pq_iconst (pq_nil ?_)
            refine hC.1 10 102 _ _ rfl _ _ _ _ _ ?_
            refine pq_iret ?_
            exact ⟨rfl, fun _ => (by decide), rfl, (0 : Int32), rfl, rfl, Or.inr ⟨rfl, by first | omega | (dsimp only; omega) | trivial⟩⟩
          · skip
            have k1 : (1 : Int32).toInt = 1 := rfl
            refine pq_iconst (pq_goto ?_)
            refine hC.1 10 102 _ _ rfl _ _ _ _ _ ?_
            refine pq_iret ?_
            exact ⟨rfl, fun _ => (by decide), rfl, (1 : Int32), rfl, rfl, Or.inl ⟨rfl, by first | omega | (dsimp only; omega) | trivial⟩⟩
        · skip
          have dc4 : (x5).toInt = ((4 : Int32) : Int32).toInt := congrArg Int32.toInt c4
          refine pq_aload_n0 (pq_iload_n3 (pq_iload4 (pq_iload_n2 (pq_iv3_11 ?_))))
          refine And.intro (Exists.intro _ md_o) (Exists.intro _ (Exists.intro _ (Exists.intro _ (Exists.intro _ (And.intro (c_X11_timesIn D v f hv hf x3 x4 x2 (by omega) (by omega)) (And.intro rfl (fun r9 A9 h9 => ?_)))))))
          obtain ⟨y6, rfl, rfl, by6⟩ := h9
          refine pq_id1 (pq_goto ?_)
          refine hC.1 6 68 _ _ rfl _ _ _ _ _ ?_
          refine pq_istore [some (.ref h), some (.int x1), some (.int x2), some (.int x3), some (.int x4), some (.int x5), some (.int (0 : Int32)), some (.int y6)] rfl (pq_iload6 (pq_iload7 (pq_icmp_eq ?_)))
          refine And.intro (fun c7 => ?_) (fun c7 => ?_)
          · skip
            have dc7 : ((0 : Int32)).toInt = (y6 : Int32).toInt := congrArg Int32.toInt c7
            refine hC.1 8 92 _ _ rfl _ _ _ _ _ ?_
            refine pq_iload_n1 (pq_iload_n2 (pq_icmp_ge ?_))
            refine And.intro (fun c8 => ?_) (fun c8 => ?_)
            · skip
              refine hC.1 9 101 _ _ rfl _ _ _ _ _ ?_
              refine pq_iconst (pq_nil ?_)
              refine hC.1 10 102 _ _ rfl _ _ _ _ _ ?_
              refine pq_iret ?_
              exact ⟨rfl, fun _ => (by decide), rfl, (0 : Int32), rfl, rfl, Or.inr ⟨rfl, by first | omega | (dsimp only; omega) | trivial⟩⟩
            · skip
              have k1 : (1 : Int32).toInt = 1 := rfl
              refine pq_iconst (pq_goto ?_)
              refine hC.1 10 102 _ _ rfl _ _ _ _ _ ?_
              refine pq_iret ?_
              exact ⟨rfl, fun _ => (by decide), rfl, (1 : Int32), rfl, rfl, Or.inl ⟨rfl, by first | omega | (dsimp only; omega) | trivial⟩⟩
          · skip
            have dc7 := pm_neI c7
            refine pq_iload6 (pq_iload7 (pq_icmp_le ?_))
            refine And.intro (fun c9 => ?_) (fun c9 => ?_)
            · skip
              refine hC.1 7 88 _ _ rfl _ _ _ _ _ ?_
              refine pq_iconst (pq_goto ?_)
              refine hC.1 10 102 _ _ rfl _ _ _ _ _ ?_
              refine pq_iret ?_
              exact ⟨rfl, fun _ => (by decide), rfl, (0 : Int32), rfl, rfl, Or.inr ⟨rfl, by first | omega | (dsimp only; omega) | trivial⟩⟩
            · skip
              have k1 : (1 : Int32).toInt = 1 := rfl
              refine pq_iconst (pq_goto ?_)
              refine hC.1 10 102 _ _ rfl _ _ _ _ _ ?_
              refine pq_iret ?_
              exact ⟨rfl, fun _ => (by decide), rfl, (1 : Int32), rfl, rfl, Or.inl ⟨rfl, by first | omega | (dsimp only; omega) | trivial⟩⟩
      · skip
        have dc3 : (x5).toInt = ((3 : Int32) : Int32).toInt := congrArg Int32.toInt c3
        refine pq_aload_n0 (qgm_weights (pq_iload_n2 (qlm_weights D (by omega) (pq_goto ?_))))
        refine hC.1 6 68 _ _ rfl _ _ _ _ _ ?_
        refine pq_istore [some (.ref h), some (.int x1), some (.int x2), some (.int x3), some (.int x4), some (.int x5), some (.int (0 : Int32)), some (.int (f 2 (x2).toInt.toNat))] rfl (pq_iload6 (pq_iload7 (pq_icmp_eq ?_)))
        refine And.intro (fun c10 => ?_) (fun c10 => ?_)
        · skip
          have dc10 : ((0 : Int32)).toInt = ((f 2 (x2).toInt.toNat) : Int32).toInt := congrArg Int32.toInt c10
          refine hC.1 8 92 _ _ rfl _ _ _ _ _ ?_
          refine pq_iload_n1 (pq_iload_n2 (pq_icmp_ge ?_))
          refine And.intro (fun c11 => ?_) (fun c11 => ?_)
          · skip
            refine hC.1 9 101 _ _ rfl _ _ _ _ _ ?_
            refine pq_iconst (pq_nil ?_)
            refine hC.1 10 102 _ _ rfl _ _ _ _ _ ?_
            refine pq_iret ?_
            exact ⟨rfl, fun _ => (by decide), rfl, (0 : Int32), rfl, rfl, Or.inr ⟨rfl, by first | omega | (dsimp only; omega) | trivial⟩⟩
          · skip
            have k1 : (1 : Int32).toInt = 1 := rfl
            refine pq_iconst (pq_goto ?_)
            refine hC.1 10 102 _ _ rfl _ _ _ _ _ ?_
            refine pq_iret ?_
            exact ⟨rfl, fun _ => (by decide), rfl, (1 : Int32), rfl, rfl, Or.inl ⟨rfl, by first | omega | (dsimp only; omega) | trivial⟩⟩
        · skip
          have dc10 := pm_neI c10
          refine pq_iload6 (pq_iload7 (pq_icmp_le ?_))
          refine And.intro (fun c12 => ?_) (fun c12 => ?_)
          · skip
            refine hC.1 7 88 _ _ rfl _ _ _ _ _ ?_
            refine pq_iconst (pq_goto ?_)
            refine hC.1 10 102 _ _ rfl _ _ _ _ _ ?_
            refine pq_iret ?_
            exact ⟨rfl, fun _ => (by decide), rfl, (0 : Int32), rfl, rfl, Or.inr ⟨rfl, by first | omega | (dsimp only; omega) | trivial⟩⟩
          · skip
            have k1 : (1 : Int32).toInt = 1 := rfl
            refine pq_iconst (pq_goto ?_)
            refine hC.1 10 102 _ _ rfl _ _ _ _ _ ?_
            refine pq_iret ?_
            exact ⟨rfl, fun _ => (by decide), rfl, (1 : Int32), rfl, rfl, Or.inl ⟨rfl, by first | omega | (dsimp only; omega) | trivial⟩⟩
    · skip
      have dc2 : (x5).toInt = ((4 : Int32) : Int32).toInt := congrArg Int32.toInt c2
      refine pq_aload_n0 (pq_iload_n3 (pq_iload4 (pq_iload_n1 (pq_iv3_11 ?_))))
      refine And.intro (Exists.intro _ md_o) (Exists.intro _ (Exists.intro _ (Exists.intro _ (Exists.intro _ (And.intro (c_X11_timesIn D v f hv hf x3 x4 x1 (by omega) (by omega)) (And.intro rfl (fun r9 A9 h9 => ?_)))))))
      obtain ⟨y13, rfl, rfl, by13⟩ := h9
      refine pq_id1 (pq_goto ?_)
      refine hC.1 3 33 _ _ rfl _ _ _ _ _ ?_
      refine pq_istore [some (.ref h), some (.int x1), some (.int x2), some (.int x3), some (.int x4), some (.int x5), some (.int y13), none] rfl (pq_iload5 (pq_iconst (pq_icmp_ne ?_)))
      refine And.intro (fun c14 => ?_) (fun c14 => ?_)
      · skip
        have dc14 := pm_neI c14
        refine hC.1 4 50 _ _ rfl _ _ _ _ _ ?_
        refine pq_iload5 (pq_iconst (pq_icmp_ne ?_))
        refine And.intro (fun c15 => ?_) (fun c15 => ?_)
        · skip
          have dc15 := pm_neI c15
          refine hC.1 5 67 _ _ rfl _ _ _ _ _ ?_
          have k0 : (0 : Int32).toInt = 0 := rfl
          refine pq_iconst (pq_nil ?_)
          refine hC.1 6 68 _ _ rfl _ _ _ _ _ ?_
          refine pq_istore [some (.ref h), some (.int x1), some (.int x2), some (.int x3), some (.int x4), some (.int x5), some (.int y13), some (.int (0 : Int32))] rfl (pq_iload6 (pq_iload7 (pq_icmp_eq ?_)))
          refine And.intro (fun c16 => ?_) (fun c16 => ?_)
          · skip
            have dc16 : (y13).toInt = ((0 : Int32) : Int32).toInt := congrArg Int32.toInt c16
            refine hC.1 8 92 _ _ rfl _ _ _ _ _ ?_
            refine pq_iload_n1 (pq_iload_n2 (pq_icmp_ge ?_))
            refine And.intro (fun c17 => ?_) (fun c17 => ?_)
            · skip
              refine hC.1 9 101 _ _ rfl _ _ _ _ _ ?_
              refine pq_iconst (pq_nil ?_)
              refine hC.1 10 102 _ _ rfl _ _ _ _ _ ?_
              refine pq_iret ?_
              exact ⟨rfl, fun _ => (by decide), rfl, (0 : Int32), rfl, rfl, Or.inr ⟨rfl, by first | omega | (dsimp only; omega) | trivial⟩⟩
            · skip
              have k1 : (1 : Int32).toInt = 1 := rfl
              refine pq_iconst (pq_goto ?_)
              refine hC.1 10 102 _ _ rfl _ _ _ _ _ ?_
              refine pq_iret ?_
              exact ⟨rfl, fun _ => (by decide), rfl, (1 : Int32), rfl, rfl, Or.inl ⟨rfl, by first | omega | (dsimp only; omega) | trivial⟩⟩
          · skip
            have dc16 := pm_neI c16
            refine pq_iload6 (pq_iload7 (pq_icmp_le ?_))
            refine And.intro (fun c18 => ?_) (fun c18 => ?_)
            · skip
              refine hC.1 7 88 _ _ rfl _ _ _ _ _ ?_
              refine pq_iconst (pq_goto ?_)
              refine hC.1 10 102 _ _ rfl _ _ _ _ _ ?_
              refine pq_iret ?_
              exact ⟨rfl, fun _ => (by decide), rfl, (0 : Int32), rfl, rfl, Or.inr ⟨rfl, by first | omega | (dsimp only; omega) | trivial⟩⟩
            · skip
              have k1 : (1 : Int32).toInt = 1 := rfl
              refine pq_iconst (pq_goto ?_)
              refine hC.1 10 102 _ _ rfl _ _ _ _ _ ?_
              refine pq_iret ?_
              exact ⟨rfl, fun _ => (by decide), rfl, (1 : Int32), rfl, rfl, Or.inl ⟨rfl, by first | omega | (dsimp only; omega) | trivial⟩⟩
        · skip
          have dc15 : (x5).toInt = ((4 : Int32) : Int32).toInt := congrArg Int32.toInt c15
          refine pq_aload_n0 (pq_iload_n3 (pq_iload4 (pq_iload_n2 (pq_iv3_11 ?_))))
          refine And.intro (Exists.intro _ md_o) (Exists.intro _ (Exists.intro _ (Exists.intro _ (Exists.intro _ (And.intro (c_X11_timesIn D v f hv hf x3 x4 x2 (by omega) (by omega)) (And.intro rfl (fun r9 A9 h9 => ?_)))))))
          obtain ⟨y19, rfl, rfl, by19⟩ := h9
          refine pq_id1 (pq_goto ?_)
          refine hC.1 6 68 _ _ rfl _ _ _ _ _ ?_
          refine pq_istore [some (.ref h), some (.int x1), some (.int x2), some (.int x3), some (.int x4), some (.int x5), some (.int y13), some (.int y19)] rfl (pq_iload6 (pq_iload7 (pq_icmp_eq ?_)))
          refine And.intro (fun c20 => ?_) (fun c20 => ?_)
          · skip
            have dc20 : (y13).toInt = (y19 : Int32).toInt := congrArg Int32.toInt c20
            refine hC.1 8 92 _ _ rfl _ _ _ _ _ ?_
            refine pq_iload_n1 (pq_iload_n2 (pq_icmp_ge ?_))
            refine And.intro (fun c21 => ?_) (fun c21 => ?_)
            · skip
              refine hC.1 9 101 _ _ rfl _ _ _ _ _ ?_
              have k0 : (0 : Int32).toInt = 0 := rfl
              refine pq_iconst (pq_nil ?_)
              refine hC.1 10 102 _ _ rfl _ _ _ _ _ ?_
              refine pq_iret ?_
              exact ⟨rfl, fun _ => (by decide), rfl, (0 : Int32), rfl, rfl, Or.inr ⟨rfl, by first | omega | (dsimp only; omega) | trivial⟩⟩
            · skip
              have k1 : (1 : Int32).toInt = 1 := rfl
              refine pq_iconst (pq_goto ?_)
              refine hC.1 10 102 _ _ rfl _ _ _ _ _ ?_
              refine pq_iret ?_
              exact ⟨rfl, fun _ => (by decide), rfl, (1 : Int32), rfl, rfl, Or.inl ⟨rfl, by first | omega | (dsimp only; omega) | trivial⟩⟩
          · skip
            have dc20 := pm_neI c20
            refine pq_iload6 (pq_iload7 (pq_icmp_le ?_))
            refine And.intro (fun c22 => ?_) (fun c22 => ?_)
            · skip
              refine hC.1 7 88 _ _ rfl _ _ _ _ _ ?_
              have k0 : (0 : Int32).toInt = 0 := rfl
              refine pq_iconst (pq_goto ?_)
              refine hC.1 10 102 _ _ rfl _ _ _ _ _ ?_
              refine pq_iret ?_
              exact ⟨rfl, fun _ => (by decide), rfl, (0 : Int32), rfl, rfl, Or.inr ⟨rfl, by first | omega | (dsimp only; omega) | trivial⟩⟩
            · skip
              have k1 : (1 : Int32).toInt = 1 := rfl
              refine pq_iconst (pq_goto ?_)
              refine hC.1 10 102 _ _ rfl _ _ _ _ _ ?_
              refine pq_iret ?_
              exact ⟨rfl, fun _ => (by decide), rfl, (1 : Int32), rfl, rfl, Or.inl ⟨rfl, by first | omega | (dsimp only; omega) | trivial⟩⟩
      · skip
        have dc14 : (x5).toInt = ((3 : Int32) : Int32).toInt := congrArg Int32.toInt c14
        refine pq_aload_n0 (qgm_weights (pq_iload_n2 (qlm_weights D (by omega) (pq_goto ?_))))
        refine hC.1 6 68 _ _ rfl _ _ _ _ _ ?_
        refine pq_istore [some (.ref h), some (.int x1), some (.int x2), some (.int x3), some (.int x4), some (.int x5), some (.int y13), some (.int (f 2 (x2).toInt.toNat))] rfl (pq_iload6 (pq_iload7 (pq_icmp_eq ?_)))
        refine And.intro (fun c23 => ?_) (fun c23 => ?_)
        · skip
          have dc23 : (y13).toInt = ((f 2 (x2).toInt.toNat) : Int32).toInt := congrArg Int32.toInt c23
          refine hC.1 8 92 _ _ rfl _ _ _ _ _ ?_
          refine pq_iload_n1 (pq_iload_n2 (pq_icmp_ge ?_))
          refine And.intro (fun c24 => ?_) (fun c24 => ?_)
          · skip
            refine hC.1 9 101 _ _ rfl _ _ _ _ _ ?_
            have k0 : (0 : Int32).toInt = 0 := rfl
            refine pq_iconst (pq_nil ?_)
            refine hC.1 10 102 _ _ rfl _ _ _ _ _ ?_
            refine pq_iret ?_
            exact ⟨rfl, fun _ => (by decide), rfl, (0 : Int32), rfl, rfl, Or.inr ⟨rfl, by first | omega | (dsimp only; omega) | trivial⟩⟩
          · skip
            have k1 : (1 : Int32).toInt = 1 := rfl
            refine pq_iconst (pq_goto ?_)
            refine hC.1 10 102 _ _ rfl _ _ _ _ _ ?_
            refine pq_iret ?_
            exact ⟨rfl, fun _ => (by decide), rfl, (1 : Int32), rfl, rfl, Or.inl ⟨rfl, by first | omega | (dsimp only; omega) | trivial⟩⟩
        · skip
          have dc23 := pm_neI c23
          refine pq_iload6 (pq_iload7 (pq_icmp_le ?_))
          refine And.intro (fun c25 => ?_) (fun c25 => ?_)
          · skip
            refine hC.1 7 88 _ _ rfl _ _ _ _ _ ?_
            have k0 : (0 : Int32).toInt = 0 := rfl
            refine pq_iconst (pq_goto ?_)
            refine hC.1 10 102 _ _ rfl _ _ _ _ _ ?_
            refine pq_iret ?_
            exact ⟨rfl, fun _ => (by decide), rfl, (0 : Int32), rfl, rfl, Or.inr ⟨rfl, by first | omega | (dsimp only; omega) | trivial⟩⟩
          · skip
            have k1 : (1 : Int32).toInt = 1 := rfl
            refine pq_iconst (pq_goto ?_)
            refine hC.1 10 102 _ _ rfl _ _ _ _ _ ?_
            refine pq_iret ?_
            exact ⟨rfl, fun _ => (by decide), rfl, (1 : Int32), rfl, rfl, Or.inl ⟨rfl, by first | omega | (dsimp only; omega) | trivial⟩⟩
  · skip
    have dc1 : (x5).toInt = ((3 : Int32) : Int32).toInt := congrArg Int32.toInt c1
    refine pq_aload_n0 (qgm_weights (pq_iload_n1 (qlm_weights D (by omega) (pq_goto ?_))))
    refine hC.1 3 33 _ _ rfl _ _ _ _ _ ?_
    refine pq_istore [some (.ref h), some (.int x1), some (.int x2), some (.int x3), some (.int x4), some (.int x5), some (.int (f 2 (x1).toInt.toNat)), none] rfl (pq_iload5 (pq_iconst (pq_icmp_ne ?_)))
    refine And.intro (fun c26 => ?_) (fun c26 => ?_)
    · skip
      have dc26 := pm_neI c26
      refine hC.1 4 50 _ _ rfl _ _ _ _ _ ?_
      refine pq_iload5 ?_
      have k4 : (4 : Int32).toInt = 4 := rfl
      refine pq_iconst (pq_icmp_ne ?_)
      refine And.intro (fun c27 => ?_) (fun c27 => ?_)
      · skip
        have dc27 := pm_neI c27
        refine hC.1 5 67 _ _ rfl _ _ _ _ _ ?_
        have k0 : (0 : Int32).toInt = 0 := rfl
        refine pq_iconst (pq_nil ?_)
        refine hC.1 6 68 _ _ rfl _ _ _ _ _ ?_
        refine pq_istore [some (.ref h), some (.int x1), some (.int x2), some (.int x3), some (.int x4), some (.int x5), some (.int (f 2 (x1).toInt.toNat)), some (.int (0 : Int32))] rfl (pq_iload6 (pq_iload7 (pq_icmp_eq ?_)))
        refine And.intro (fun c28 => ?_) (fun c28 => ?_)
        · skip
          have dc28 : ((f 2 (x1).toInt.toNat)).toInt = ((0 : Int32) : Int32).toInt := congrArg Int32.toInt c28
          refine hC.1 8 92 _ _ rfl _ _ _ _ _ ?_
          refine pq_iload_n1 (pq_iload_n2 (pq_icmp_ge ?_))
          refine And.intro (fun c29 => ?_) (fun c29 => ?_)
          · skip
            refine hC.1 9 101 _ _ rfl _ _ _ _ _ ?_
            refine pq_iconst (pq_nil ?_)
            refine hC.1 10 102 _ _ rfl _ _ _ _ _ ?_
            refine pq_iret ?_
            exact ⟨rfl, fun _ => (by decide), rfl, (0 : Int32), rfl, rfl, Or.inr ⟨rfl, by first | omega | (dsimp only; omega) | trivial⟩⟩
          · skip
            have k1 : (1 : Int32).toInt = 1 := rfl
            refine pq_iconst (pq_goto ?_)
            refine hC.1 10 102 _ _ rfl _ _ _ _ _ ?_
            refine pq_iret ?_
            exact ⟨rfl, fun _ => (by decide), rfl, (1 : Int32), rfl, rfl, Or.inl ⟨rfl, by first | omega | (dsimp only; omega) | trivial⟩⟩
        · skip
          have dc28 := pm_neI c28
          refine pq_iload6 (pq_iload7 (pq_icmp_le ?_))
          refine And.intro (fun c30 => ?_) (fun c30 => ?_)
          · skip
            refine hC.1 7 88 _ _ rfl _ _ _ _ _ ?_
            refine pq_iconst (pq_goto ?_)
            refine hC.1 10 102 _ _ rfl _ _ _ _ _ ?_
            refine pq_iret ?_
            exact ⟨rfl, fun _ => (by decide), rfl, (0 : Int32), rfl, rfl, Or.inr ⟨rfl, by first | omega | (dsimp only; omega) | trivial⟩⟩
          · skip
            have k1 : (1 : Int32).toInt = 1 := rfl
            refine pq_iconst (pq_goto ?_)
            refine hC.1 10 102 _ _ rfl _ _ _ _ _ ?_
            refine pq_iret ?_
            exact ⟨rfl, fun _ => (by decide), rfl, (1 : Int32), rfl, rfl, Or.inl ⟨rfl, by first | omega | (dsimp only; omega) | trivial⟩⟩
      · skip
        have dc27 : (x5).toInt = ((4 : Int32) : Int32).toInt := congrArg Int32.toInt c27
        refine pq_aload_n0 (pq_iload_n3 (pq_iload4 (pq_iload_n2 (pq_iv3_11 ?_))))
        refine And.intro (Exists.intro _ md_o) (Exists.intro _ (Exists.intro _ (Exists.intro _ (Exists.intro _ (And.intro (c_X11_timesIn D v f hv hf x3 x4 x2 (by omega) (by omega)) (And.intro rfl (fun r9 A9 h9 => ?_)))))))
        obtain ⟨y31, rfl, rfl, by31⟩ := h9
        refine pq_id1 (pq_goto ?_)
        refine hC.1 6 68 _ _ rfl _ _ _ _ _ ?_
        refine pq_istore [some (.ref h), some (.int x1), some (.int x2), some (.int x3), some (.int x4), some (.int x5), some (.int (f 2 (x1).toInt.toNat)), some (.int y31)] rfl (pq_iload6 (pq_iload7 (pq_icmp_eq ?_)))
        refine And.intro (fun c32 => ?_) (fun c32 => ?_)
        · skip
          have dc32 : ((f 2 (x1).toInt.toNat)).toInt = (y31 : Int32).toInt := congrArg Int32.toInt c32
          refine hC.1 8 92 _ _ rfl _ _ _ _ _ ?_
          refine pq_iload_n1 (pq_iload_n2 (pq_icmp_ge ?_))
          refine And.intro (fun c33 => ?_) (fun c33 => ?_)
          · skip
            refine hC.1 9 101 _ _ rfl _ _ _ _ _ ?_
            have k0 : (0 : Int32).toInt = 0 := rfl
            refine pq_iconst (pq_nil ?_)
            refine hC.1 10 102 _ _ rfl _ _ _ _ _ ?_
            refine pq_iret ?_
            exact ⟨rfl, fun _ => (by decide), rfl, (0 : Int32), rfl, rfl, Or.inr ⟨rfl, by first | omega | (dsimp only; omega) | trivial⟩⟩
          · skip
            have k1 : (1 : Int32).toInt = 1 := rfl
            refine pq_iconst (pq_goto ?_)
            refine hC.1 10 102 _ _ rfl _ _ _ _ _ ?_
            refine pq_iret ?_
            exact ⟨rfl, fun _ => (by decide), rfl, (1 : Int32), rfl, rfl, Or.inl ⟨rfl, by first | omega | (dsimp only; omega) | trivial⟩⟩
        · skip
          have dc32 := pm_neI c32
          refine pq_iload6 (pq_iload7 (pq_icmp_le ?_))
          refine And.intro (fun c34 => ?_) (fun c34 => ?_)
          · skip
            refine hC.1 7 88 _ _ rfl _ _ _ _ _ ?_
            have k0 : (0 : Int32).toInt = 0 := rfl
            refine pq_iconst (pq_goto ?_)
            refine hC.1 10 102 _ _ rfl _ _ _ _ _ ?_
            refine pq_iret ?_
            exact ⟨rfl, fun _ => (by decide), rfl, (0 : Int32), rfl, rfl, Or.inr ⟨rfl, by first | omega | (dsimp only; omega) | trivial⟩⟩
          · skip
            have k1 : (1 : Int32).toInt = 1 := rfl
            refine pq_iconst (pq_goto ?_)
            refine hC.1 10 102 _ _ rfl _ _ _ _ _ ?_
            refine pq_iret ?_
            exact ⟨rfl, fun _ => (by decide), rfl, (1 : Int32), rfl, rfl, Or.inl ⟨rfl, by first | omega | (dsimp only; omega) | trivial⟩⟩
    · skip
      have dc26 : (x5).toInt = ((3 : Int32) : Int32).toInt := congrArg Int32.toInt c26
      refine pq_aload_n0 (qgm_weights (pq_iload_n2 (qlm_weights D (by omega) (pq_goto ?_))))
      refine hC.1 6 68 _ _ rfl _ _ _ _ _ ?_
      refine pq_istore [some (.ref h), some (.int x1), some (.int x2), some (.int x3), some (.int x4), some (.int x5), some (.int (f 2 (x1).toInt.toNat)), some (.int (f 2 (x2).toInt.toNat))] rfl (pq_iload6 (pq_iload7 (pq_icmp_eq ?_)))
      refine And.intro (fun c35 => ?_) (fun c35 => ?_)
      · skip
        have dc35 : ((f 2 (x1).toInt.toNat)).toInt = ((f 2 (x2).toInt.toNat) : Int32).toInt := congrArg Int32.toInt c35
        refine hC.1 8 92 _ _ rfl _ _ _ _ _ ?_
        refine pq_iload_n1 (pq_iload_n2 (pq_icmp_ge ?_))
        refine And.intro (fun c36 => ?_) (fun c36 => ?_)
        · skip
          refine hC.1 9 101 _ _ rfl _ _ _ _ _ ?_
          have k0 : (0 : Int32).toInt = 0 := rfl
          refine pq_iconst (pq_nil ?_)
          refine hC.1 10 102 _ _ rfl _ _ _ _ _ ?_
          refine pq_iret ?_
          exact ⟨rfl, fun _ => (by decide), rfl, (0 : Int32), rfl, rfl, Or.inr ⟨rfl, by first | omega | (dsimp only; omega) | trivial⟩⟩
        · skip
          have k1 : (1 : Int32).toInt = 1 := rfl
          refine pq_iconst (pq_goto ?_)
          refine hC.1 10 102 _ _ rfl _ _ _ _ _ ?_
          refine pq_iret ?_
          exact ⟨rfl, fun _ => (by decide), rfl, (1 : Int32), rfl, rfl, Or.inl ⟨rfl, by first | omega | (dsimp only; omega) | trivial⟩⟩
      · skip
        have dc35 := pm_neI c35
        refine pq_iload6 (pq_iload7 (pq_icmp_le ?_))
        refine And.intro (fun c37 => ?_) (fun c37 => ?_)
        · skip
          refine hC.1 7 88 _ _ rfl _ _ _ _ _ ?_
          have k0 : (0 : Int32).toInt = 0 := rfl
          refine pq_iconst (pq_goto ?_)
          refine hC.1 10 102 _ _ rfl _ _ _ _ _ ?_
          refine pq_iret ?_
          exact ⟨rfl, fun _ => (by decide), rfl, (0 : Int32), rfl, rfl, Or.inr ⟨rfl, by first | omega | (dsimp only; omega) | trivial⟩⟩
        · skip
          have k1 : (1 : Int32).toInt = 1 := rfl
          refine pq_iconst (pq_goto ?_)
          refine hC.1 10 102 _ _ rfl _ _ _ _ _ ?_
          refine pq_iret ?_
          exact ⟨rfl, fun _ => (by decide), rfl, (1 : Int32), rfl, rfl, Or.inl ⟨rfl, by first | omega | (dsimp only; omega) | trivial⟩⟩

end
end
section
section
variable {l : Launch} {g : pm_G} {A0 : pm_H} {h : Nat} {q : Nat → Nat}
set_option maxRecDepth 100000 in
set_option maxHeartbeats 2000000 in
theorem c_X11_since (D : md_D h q) (v : Nat → Int32) (f : Nat → Nat → Int32) (hv : md_V v) (hf : md_F f) (x1 : Int32)  : pm_Mt l g 234 3 0 0 [.ref h, .int x1] (md A0 g h q v f) (md_Qp (md A0 g h q v f) (fun r => True)) := by
  refine mt_X11_since rfl (fun J hC => ?_)
  have hv9 := hv
  unfold md_V at hv9
  have rg_x1 := pm_rng x1
  show J 0 [some (.ref h), some (.int x1), none, none, none] [] (md A0 g h q v f) 0 0
  refine hC.1 0 0 _ _ rfl _ _ _ _ _ ?_
  refine pq_aload_n0 (pq_iload_n1 (pq_iv1_11 ?_))
  refine And.intro (Exists.intro _ md_o) (Exists.intro _ (Exists.intro _ (Exists.intro _ (Exists.intro _ (And.intro (c_X11_place D v f hv hf x1 ) (And.intro rfl (fun r9 A9 h9 => ?_)))))))
  obtain ⟨y1, rfl, rfl, by1⟩ := h9
  refine pq_id1 (pq_istore_n [some (.ref h), some (.int x1), some (.int y1), none, none] rfl (pq_iload_n2 (pq_icond_ge ?_)))
  refine And.intro (fun c2 => ?_) (fun c2 => ?_)
  · skip
    refine hC.1 1 12 _ _ rfl _ _ _ _ _ ?_
    refine pq_aload_n0 (pq_iload_n2 (pq_iv1_11 ?_))
    refine And.intro (Exists.intro _ md_o) (Exists.intro _ (Exists.intro _ (Exists.intro _ (Exists.intro _ (And.intro (c_X11_bondOf D v f hv hf y1 (by omega)) (And.intro rfl (fun r9 A9 h9 => ?_)))))))
    obtain ⟨y3, rfl, rfl, by3⟩ := h9
    refine pq_id1 (pq_istore_n [some (.ref h), some (.int x1), some (.int y1), some (.int y3), none] rfl (pq_aload_n0 (qgm_edits (pq_istore [some (.ref h), some (.int x1), some (.int y1), some (.int y3), some (.int (v 4))] rfl (pq_nil ?_)))))
    have lp4 : ∀ (n : Nat) (z4_24 : Int32), (0 ≤ z4_24.toInt ∧ z4_24.toInt ≤ (v 4).toInt) → z4_24.toInt < (n : Int) → J 24 [some (.ref h), some (.int x1), some (.int y1), some (.int y3), some (.int z4_24)] [] (md A0 g h q v f) 0 0 := by
      intro n
      induction n with
      | zero =>
        intro z4_24 j0_24 j1_24
        omega
      | succ n ih5 =>
        intro z4_24 j0_24 j1_24
        refine hC.1 2 24 _ _ rfl _ _ _ _ _ ?_
        refine pq_aload_n0 (pq_iload4 ?_)
        have k1 : (1 : Int32).toInt = 1 := rfl
        refine pq_iconst (pq_isub ?_)
        intro m6 em_28
        try have e6 : m6.toInt = (z4_24).toInt - (1) := by rw [em_28]; exact pm_subc _ _ (1) rfl (by omega) (by omega)
        refine pq_iv1_11 ?_
        refine And.intro (Exists.intro _ md_o) (Exists.intro _ (Exists.intro _ (Exists.intro _ (Exists.intro _ (And.intro (c_X11_isKnown D v f hv hf m6 ) (And.intro rfl (fun r9 A9 h9 => ?_)))))))
        rcases h9 with ⟨y7, rfl, rfl, ⟨rfl, by7⟩ | ⟨rfl, by7⟩⟩
        · skip
          refine pq_id1 (pq_icond_eq ?_)
          refine And.intro (fun c9 => absurd c9 (by decide)) (fun _ => ?_)
          refine pq_aload_n0 (pq_iload4 (pq_iconst (pq_isub ?_)))
          intro m8 em_39
          try have e8 : m8.toInt = (z4_24).toInt - (1) := by rw [em_39]; exact pm_subc _ _ (1) rfl (by omega) (by omega)
          refine pq_iload_n1 (pq_iload_n3 (pq_iv3_11 ?_))
          refine And.intro (Exists.intro _ md_o) (Exists.intro _ (Exists.intro _ (Exists.intro _ (Exists.intro _ (And.intro (c_X11_hadBond D v f hv hf m8 x1 y3 (by omega)) (And.intro rfl (fun r9 A9 h9 => ?_)))))))
          rcases h9 with ⟨y9, rfl, rfl, ⟨rfl, by9⟩ | ⟨rfl, by9⟩⟩
          · skip
            refine pq_id1 (pq_icond_eq ?_)
            refine And.intro (fun c9 => absurd c9 (by decide)) (fun _ => ?_)
            have km1 : (-1 : Int32).toInt = -1 := rfl
            refine pq_iinc (fun zm_9 => [some (.ref h), some (.int x1), some (.int y1), some (.int y3), some (.int zm_9)]) rfl (fun _ => rfl) ?_
            intro m10 em_48
            try have e10 : m10.toInt = (z4_24).toInt + (-1) := by rw [em_48]; exact pm_addc _ _ (-1) rfl (by omega) (by omega)
            refine pq_goto ?_
            exact ih5 m10 (by omega) (by omega)
          · skip
            have k0 : (0 : Int32).toInt = 0 := rfl
            refine pq_id1 (pq_icond_eq ?_)
            refine And.intro (fun _ => ?_) (fun c9 => absurd c9 (by decide))
            refine hC.1 3 54 _ _ rfl _ _ _ _ _ ?_
            refine pq_iload4 (pq_iret ?_)
            exact ⟨rfl, fun e9 => absurd e9 (by decide), rfl, z4_24, rfl, rfl, by exact True.intro⟩
        · skip
          have k0 : (0 : Int32).toInt = 0 := rfl
          refine pq_id1 (pq_icond_eq ?_)
          refine And.intro (fun _ => ?_) (fun c9 => absurd c9 (by decide))
          refine hC.1 3 54 _ _ rfl _ _ _ _ _ ?_
          refine pq_iload4 (pq_iret ?_)
          exact ⟨rfl, fun e9 => absurd e9 (by decide), rfl, z4_24, rfl, rfl, by exact True.intro⟩
    exact lp4 ((v 4).toInt).toNat.succ (v 4) (by omega) (by omega)
  · skip
    have km1 : (-1 : Int32).toInt = -1 := rfl
    refine pq_iconst (pq_iret ?_)
    exact ⟨rfl, fun e9 => absurd e9 (by decide), rfl, (-1 : Int32), rfl, rfl, by exact True.intro⟩

end
end
section
section
variable {l : Launch} {g : pm_G} {A0 : pm_H} {h : Nat} {q : Nat → Nat}
set_option maxRecDepth 100000 in
set_option maxHeartbeats 2000000 in
theorem c_X11_changed (D : md_D h q) (v : Nat → Int32) (f : Nat → Nat → Int32) (hv : md_V v) (hf : md_F f) (x1 : Int32) (x2 : Int32)  : pm_Mt l g 237 2 0 0 [.ref h, .int x1, .int x2] (md A0 g h q v f) (md_Qp (md A0 g h q v f) (fun r => True)) := by
  refine mt_X11_changed rfl (fun J hC => ?_)
  have hv9 := hv
  unfold md_V at hv9
  have rg_x1 := pm_rng x1
  have rg_x2 := pm_rng x2
  show J 0 [some (.ref h), some (.int x1), some (.int x2), none, none, none, none] [] (md A0 g h q v f) 0 0
  refine hC.1 0 0 _ _ rfl _ _ _ _ _ ?_
  refine pq_aload_n0 (pq_iload_n1 (pq_iv1_11 ?_))
  refine And.intro (Exists.intro _ md_o) (Exists.intro _ (Exists.intro _ (Exists.intro _ (Exists.intro _ (And.intro (c_X11_isKnown D v f hv hf x1 ) (And.intro rfl (fun r9 A9 h9 => ?_)))))))
  rcases h9 with ⟨y1, rfl, rfl, ⟨rfl, by1⟩ | ⟨rfl, by1⟩⟩
  · skip
    have k1 : (1 : Int32).toInt = 1 := rfl
    refine pq_id1 (pq_icond_eq ?_)
    refine And.intro (fun c9 => absurd c9 (by decide)) (fun _ => ?_)
    refine pq_iload_n2 ?_
    have k0 : (0 : Int32).toInt = 0 := rfl
    refine pq_iconst ?_
    have k3 : (3 : Int32).toInt = 3 := rfl
    refine pq_iconst (pq_is3 ?_)
    refine Exists.intro _ (Exists.intro _ (Exists.intro _ (Exists.intro _ (And.intro (c_X11_isIn (md A0 g h q v f) x2 (0 : Int32) (3 : Int32) ) (And.intro rfl (fun r9 A9 h9 => ?_))))))
    rcases h9 with ⟨y2, rfl, rfl, ⟨rfl, by2⟩ | ⟨rfl, by2⟩⟩
    · skip
      refine pq_id1 (pq_icond_ne ?_)
      refine And.intro (fun _ => ?_) (fun c9 => absurd c9 (by decide))
      refine hC.1 2 19 _ _ rfl _ _ _ _ _ ?_
      refine pq_iconst (pq_istore_n [some (.ref h), some (.int x1), some (.int x2), some (.int (0 : Int32)), none, none, none] rfl (pq_iconst (pq_istore [some (.ref h), some (.int x1), some (.int x2), some (.int (0 : Int32)), some (.int (0 : Int32)), none, none] rfl (pq_nil ?_))))
      have lp3 : ∀ (n : Nat) (z3_24 : Int32) (z4_24 : Int32), (0 ≤ z4_24.toInt ∧ z4_24.toInt ≤ (v 0).toInt) → 200 - z4_24.toInt < (n : Int) → J 24 [some (.ref h), some (.int x1), some (.int x2), some (.int z3_24), some (.int z4_24), none, none] [] (md A0 g h q v f) 0 0 := by
        intro n
        induction n with
        | zero =>
          intro z3_24 z4_24 j0_24 j1_24
          omega
        | succ n ih4 =>
          intro z3_24 z4_24 j0_24 j1_24
          refine hC.1 3 24 _ _ rfl _ _ _ _ _ ?_
          refine pq_iload4 (pq_aload_n0 (qgm_many (pq_icmp_ge ?_)))
          refine And.intro (fun c5 => ?_) (fun c5 => ?_)
          · skip
            refine hC.1 13 140 _ _ rfl _ _ _ _ _ ?_
            refine pq_iload_n3 (pq_iret ?_)
            exact ⟨rfl, fun e9 => absurd e9 (by decide), rfl, z3_24, rfl, rfl, by exact True.intro⟩
          · skip
            refine pq_aload_n0 (pq_iload_n1 (pq_aload_n0 (qgm_names (pq_iload4 (qlm_names D (by omega) (pq_iv2_11 ?_))))))
            refine And.intro (Exists.intro _ md_o) (Exists.intro _ (Exists.intro _ (Exists.intro _ (Exists.intro _ (And.intro (c_X11_wasPlace D v f hv hf x1 (f 1 (z4_24).toInt.toNat) (by omega)) (And.intro rfl (fun r9 A9 h9 => ?_)))))))
            obtain ⟨y6, rfl, rfl, by6⟩ := h9
            refine pq_id1 (pq_istore [some (.ref h), some (.int x1), some (.int x2), some (.int z3_24), some (.int z4_24), some (.int y6), none] rfl (pq_iload5 (pq_icond_ge ?_)))
            refine And.intro (fun c7 => ?_) (fun c7 => ?_)
            · skip
              refine hC.1 4 55 _ _ rfl _ _ _ _ _ ?_
              refine pq_iload_n2 (pq_icond_eq ?_)
              refine And.intro (fun c8 => ?_) (fun c8 => ?_)
              · skip
                have dc8 : (x2).toInt = (0 : Int32).toInt := congrArg Int32.toInt c8
                refine hC.1 7 114 _ _ rfl _ _ _ _ _ ?_
                refine pq_iconst (pq_goto ?_)
                refine hC.1 9 119 _ _ rfl _ _ _ _ _ ?_
                refine pq_istore [some (.ref h), some (.int x1), some (.int x2), some (.int z3_24), some (.int z4_24), some (.int y6), some (.int (1 : Int32))] rfl (pq_iload_n3 (pq_iload6 (pq_icond_eq ?_)))
                refine And.intro (fun c9 => absurd c9 (by decide)) (fun _ => ?_)
                refine pq_iconst (pq_goto ?_)
                refine hC.1 11 132 _ _ rfl _ _ _ _ _ ?_
                refine pq_iadd ?_
                intro m9 em_132
                try have e9 : m9.toInt = (z3_24).toInt + (1) := by rw [em_132]; exact pm_addc _ _ (1) rfl (by omega) (by omega)
                refine pq_istore_n [some (.ref h), some (.int x1), some (.int x2), some (.int m9), some (.int z4_24), some (.int y6), some (.int (1 : Int32))] rfl (pq_nil ?_)
                refine hC.1 12 134 _ _ rfl _ _ _ _ _ ?_
                refine pq_iinc (fun zm_9 => [some (.ref h), some (.int x1), some (.int x2), some (.int m9), some (.int zm_9), some (.int y6), some (.int (1 : Int32))]) rfl (fun _ => rfl) ?_
                intro m10 em_134
                try have e10 : m10.toInt = (z4_24).toInt + (1) := by rw [em_134]; exact pm_addc _ _ (1) rfl (by omega) (by omega)
                refine pq_goto ?_
                exact hC.2 [false, false, false, false, false, true, true] _ _ _ _ _ _ (ih4 m9 m10 (by omega) (by omega))
              · skip
                have dc8 := pm_neI c8
                refine pq_iload_n2 (pq_iconst (pq_icmp_ne ?_))
                refine And.intro (fun c11 => ?_) (fun c11 => ?_)
                · skip
                  have dc11 := pm_neI c11
                  refine hC.1 5 71 _ _ rfl _ _ _ _ _ ?_
                  refine pq_iload_n2 ?_
                  have k2 : (2 : Int32).toInt = 2 := rfl
                  refine pq_iconst (pq_icmp_ne ?_)
                  refine And.intro (fun c12 => ?_) (fun c12 => ?_)
                  · skip
                    have dc12 := pm_neI c12
                    refine hC.1 6 93 _ _ rfl _ _ _ _ _ ?_
                    refine pq_iload_n2 (pq_iconst (pq_icmp_ne ?_))
                    refine And.intro (fun c13 => ?_) (fun c13 => ?_)
                    · skip
                      have dc13 := pm_neI c13
                      refine hC.1 8 118 _ _ rfl _ _ _ _ _ ?_
                      refine pq_iconst (pq_nil ?_)
                      refine hC.1 9 119 _ _ rfl _ _ _ _ _ ?_
                      refine pq_istore [some (.ref h), some (.int x1), some (.int x2), some (.int z3_24), some (.int z4_24), some (.int y6), some (.int (0 : Int32))] rfl (pq_iload_n3 (pq_iload6 (pq_icond_eq ?_)))
                      refine And.intro (fun _ => ?_) (fun c9 => absurd c9 (by decide))
                      refine hC.1 10 131 _ _ rfl _ _ _ _ _ ?_
                      refine pq_iconst (pq_nil ?_)
                      refine hC.1 11 132 _ _ rfl _ _ _ _ _ ?_
                      refine pq_iadd ?_
                      intro m14 em_132
                      try have e14 : m14.toInt = (z3_24).toInt + (0) := by rw [em_132]; exact pm_addc _ _ (0) rfl (by omega) (by omega)
                      refine pq_istore_n [some (.ref h), some (.int x1), some (.int x2), some (.int m14), some (.int z4_24), some (.int y6), some (.int (0 : Int32))] rfl (pq_nil ?_)
                      refine hC.1 12 134 _ _ rfl _ _ _ _ _ ?_
                      refine pq_iinc (fun zm_9 => [some (.ref h), some (.int x1), some (.int x2), some (.int m14), some (.int zm_9), some (.int y6), some (.int (0 : Int32))]) rfl (fun _ => rfl) ?_
                      intro m15 em_134
                      try have e15 : m15.toInt = (z4_24).toInt + (1) := by rw [em_134]; exact pm_addc _ _ (1) rfl (by omega) (by omega)
                      refine pq_goto ?_
                      exact hC.2 [false, false, false, false, false, true, true] _ _ _ _ _ _ (ih4 m14 m15 (by omega) (by omega))
                    · skip
                      have dc13 : (x2).toInt = ((3 : Int32) : Int32).toInt := congrArg Int32.toInt c13
                      refine pq_aload_n0 (pq_iload4 (pq_iv1_11 ?_))
                      refine And.intro (Exists.intro _ md_o) (Exists.intro _ (Exists.intro _ (Exists.intro _ (Exists.intro _ (And.intro (c_X11_bondOf D v f hv hf z4_24 (by omega)) (And.intro rfl (fun r9 A9 h9 => ?_)))))))
                      obtain ⟨y16, rfl, rfl, by16⟩ := h9
                      refine pq_id1 (pq_aload_n0 (pq_iload_n1 (pq_iload5 (pq_iv2_11 ?_))))
                      refine And.intro (Exists.intro _ md_o) (Exists.intro _ (Exists.intro _ (Exists.intro _ (Exists.intro _ (And.intro (c_X11_wasBond D v f hv hf x1 y6 (by omega) (by omega)) (And.intro rfl (fun r9 A9 h9 => ?_)))))))
                      obtain ⟨y17, rfl, rfl, by17⟩ := h9
                      refine pq_id1 (pq_icmp_eq ?_)
                      refine And.intro (fun c18 => ?_) (fun c18 => ?_)
                      · skip
                        have dc18 : (y16).toInt = (y17 : Int32).toInt := congrArg Int32.toInt c18
                        refine hC.1 8 118 _ _ rfl _ _ _ _ _ ?_
                        refine pq_iconst (pq_nil ?_)
                        refine hC.1 9 119 _ _ rfl _ _ _ _ _ ?_
                        refine pq_istore [some (.ref h), some (.int x1), some (.int x2), some (.int z3_24), some (.int z4_24), some (.int y6), some (.int (0 : Int32))] rfl (pq_iload_n3 (pq_iload6 (pq_icond_eq ?_)))
                        refine And.intro (fun _ => ?_) (fun c9 => absurd c9 (by decide))
                        refine hC.1 10 131 _ _ rfl _ _ _ _ _ ?_
                        refine pq_iconst (pq_nil ?_)
                        refine hC.1 11 132 _ _ rfl _ _ _ _ _ ?_
                        refine pq_iadd ?_
                        intro m19 em_132
                        try have e19 : m19.toInt = (z3_24).toInt + (0) := by rw [em_132]; exact pm_addc _ _ (0) rfl (by omega) (by omega)
                        refine pq_istore_n [some (.ref h), some (.int x1), some (.int x2), some (.int m19), some (.int z4_24), some (.int y6), some (.int (0 : Int32))] rfl (pq_nil ?_)
                        refine hC.1 12 134 _ _ rfl _ _ _ _ _ ?_
                        refine pq_iinc (fun zm_9 => [some (.ref h), some (.int x1), some (.int x2), some (.int m19), some (.int zm_9), some (.int y6), some (.int (0 : Int32))]) rfl (fun _ => rfl) ?_
                        intro m20 em_134
                        try have e20 : m20.toInt = (z4_24).toInt + (1) := by rw [em_134]; exact pm_addc _ _ (1) rfl (by omega) (by omega)
                        refine pq_goto ?_
                        exact hC.2 [false, false, false, false, false, true, true] _ _ _ _ _ _ (ih4 m19 m20 (by omega) (by omega))
                      · skip
                        have dc18 := pm_neI c18
                        refine pq_nil ?_
                        refine hC.1 7 114 _ _ rfl _ _ _ _ _ ?_
                        refine pq_iconst (pq_goto ?_)
                        refine hC.1 9 119 _ _ rfl _ _ _ _ _ ?_
                        refine pq_istore [some (.ref h), some (.int x1), some (.int x2), some (.int z3_24), some (.int z4_24), some (.int y6), some (.int (1 : Int32))] rfl (pq_iload_n3 (pq_iload6 (pq_icond_eq ?_)))
                        refine And.intro (fun c9 => absurd c9 (by decide)) (fun _ => ?_)
                        refine pq_iconst (pq_goto ?_)
                        refine hC.1 11 132 _ _ rfl _ _ _ _ _ ?_
                        refine pq_iadd ?_
                        intro m21 em_132
                        try have e21 : m21.toInt = (z3_24).toInt + (1) := by rw [em_132]; exact pm_addc _ _ (1) rfl (by omega) (by omega)
                        refine pq_istore_n [some (.ref h), some (.int x1), some (.int x2), some (.int m21), some (.int z4_24), some (.int y6), some (.int (1 : Int32))] rfl (pq_nil ?_)
                        refine hC.1 12 134 _ _ rfl _ _ _ _ _ ?_
                        refine pq_iinc (fun zm_9 => [some (.ref h), some (.int x1), some (.int x2), some (.int m21), some (.int zm_9), some (.int y6), some (.int (1 : Int32))]) rfl (fun _ => rfl) ?_
                        intro m22 em_134
                        try have e22 : m22.toInt = (z4_24).toInt + (1) := by rw [em_134]; exact pm_addc _ _ (1) rfl (by omega) (by omega)
                        refine pq_goto ?_
                        exact hC.2 [false, false, false, false, false, true, true] _ _ _ _ _ _ (ih4 m21 m22 (by omega) (by omega))
                  · skip
                    have dc12 : (x2).toInt = ((2 : Int32) : Int32).toInt := congrArg Int32.toInt c12
                    refine pq_aload_n0 (qgm_colours (pq_iload4 (qlm_colours D (by omega) ?_)))
                    have w23 : (0 : Int) ≤ (f 0 (z4_24).toInt.toNat).toInt ∧ (f 0 (z4_24).toInt.toNat).toInt ≤ (23 : Int) := hf 0 _
                    refine pq_aload_n0 (pq_iload_n1 (pq_iload5 (pq_iv2_11 ?_)))
                    refine And.intro (Exists.intro _ md_o) (Exists.intro _ (Exists.intro _ (Exists.intro _ (Exists.intro _ (And.intro (c_X11_wasColour D v f hv hf x1 y6 (by omega) (by omega)) (And.intro rfl (fun r9 A9 h9 => ?_)))))))
                    obtain ⟨y24, rfl, rfl, by24⟩ := h9
                    refine pq_id1 (pq_icmp_ne ?_)
                    refine And.intro (fun c25 => ?_) (fun c25 => ?_)
                    · skip
                      have dc25 := pm_neI c25
                      refine hC.1 7 114 _ _ rfl _ _ _ _ _ ?_
                      refine pq_iconst (pq_goto ?_)
                      refine hC.1 9 119 _ _ rfl _ _ _ _ _ ?_
                      refine pq_istore [some (.ref h), some (.int x1), some (.int x2), some (.int z3_24), some (.int z4_24), some (.int y6), some (.int (1 : Int32))] rfl (pq_iload_n3 (pq_iload6 (pq_icond_eq ?_)))
                      refine And.intro (fun c9 => absurd c9 (by decide)) (fun _ => ?_)
                      refine pq_iconst (pq_goto ?_)
                      refine hC.1 11 132 _ _ rfl _ _ _ _ _ ?_
                      refine pq_iadd ?_
                      intro m26 em_132
                      try have e26 : m26.toInt = (z3_24).toInt + (1) := by rw [em_132]; exact pm_addc _ _ (1) rfl (by omega) (by omega)
                      refine pq_istore_n [some (.ref h), some (.int x1), some (.int x2), some (.int m26), some (.int z4_24), some (.int y6), some (.int (1 : Int32))] rfl (pq_nil ?_)
                      refine hC.1 12 134 _ _ rfl _ _ _ _ _ ?_
                      refine pq_iinc (fun zm_9 => [some (.ref h), some (.int x1), some (.int x2), some (.int m26), some (.int zm_9), some (.int y6), some (.int (1 : Int32))]) rfl (fun _ => rfl) ?_
                      intro m27 em_134
                      try have e27 : m27.toInt = (z4_24).toInt + (1) := by rw [em_134]; exact pm_addc _ _ (1) rfl (by omega) (by omega)
                      refine pq_goto ?_
                      exact hC.2 [false, false, false, false, false, true, true] _ _ _ _ _ _ (ih4 m26 m27 (by omega) (by omega))
                    · skip
                      have dc25 : ((f 0 (z4_24).toInt.toNat)).toInt = (y24 : Int32).toInt := congrArg Int32.toInt c25
                      refine pq_nil ?_
                      refine hC.1 6 93 _ _ rfl _ _ _ _ _ ?_
                      refine pq_iload_n2 (pq_iconst (pq_icmp_ne ?_))
                      refine And.intro (fun c28 => ?_) (fun c28 => ?_)
                      · skip
                        have dc28 := pm_neI c28
                        refine hC.1 8 118 _ _ rfl _ _ _ _ _ ?_
                        refine pq_iconst (pq_nil ?_)
                        refine hC.1 9 119 _ _ rfl _ _ _ _ _ ?_
                        refine pq_istore [some (.ref h), some (.int x1), some (.int x2), some (.int z3_24), some (.int z4_24), some (.int y6), some (.int (0 : Int32))] rfl (pq_iload_n3 (pq_iload6 (pq_icond_eq ?_)))
                        refine And.intro (fun _ => ?_) (fun c9 => absurd c9 (by decide))
                        refine hC.1 10 131 _ _ rfl _ _ _ _ _ ?_
                        refine pq_iconst (pq_nil ?_)
                        refine hC.1 11 132 _ _ rfl _ _ _ _ _ ?_
                        refine pq_iadd ?_
                        intro m29 em_132
                        try have e29 : m29.toInt = (z3_24).toInt + (0) := by rw [em_132]; exact pm_addc _ _ (0) rfl (by omega) (by omega)
                        refine pq_istore_n [some (.ref h), some (.int x1), some (.int x2), some (.int m29), some (.int z4_24), some (.int y6), some (.int (0 : Int32))] rfl (pq_nil ?_)
                        refine hC.1 12 134 _ _ rfl _ _ _ _ _ ?_
                        refine pq_iinc (fun zm_9 => [some (.ref h), some (.int x1), some (.int x2), some (.int m29), some (.int zm_9), some (.int y6), some (.int (0 : Int32))]) rfl (fun _ => rfl) ?_
                        intro m30 em_134
                        try have e30 : m30.toInt = (z4_24).toInt + (1) := by rw [em_134]; exact pm_addc _ _ (1) rfl (by omega) (by omega)
                        refine pq_goto ?_
                        exact hC.2 [false, false, false, false, false, true, true] _ _ _ _ _ _ (ih4 m29 m30 (by omega) (by omega))
                      · skip
                        have dc28 : (x2).toInt = ((3 : Int32) : Int32).toInt := congrArg Int32.toInt c28
                        refine pq_aload_n0 (pq_iload4 (pq_iv1_11 ?_))
                        refine And.intro (Exists.intro _ md_o) (Exists.intro _ (Exists.intro _ (Exists.intro _ (Exists.intro _ (And.intro (c_X11_bondOf D v f hv hf z4_24 (by omega)) (And.intro rfl (fun r9 A9 h9 => ?_)))))))
                        obtain ⟨y31, rfl, rfl, by31⟩ := h9
                        refine pq_id1 (pq_aload_n0 (pq_iload_n1 (pq_iload5 (pq_iv2_11 ?_))))
                        refine And.intro (Exists.intro _ md_o) (Exists.intro _ (Exists.intro _ (Exists.intro _ (Exists.intro _ (And.intro (c_X11_wasBond D v f hv hf x1 y6 (by omega) (by omega)) (And.intro rfl (fun r9 A9 h9 => ?_)))))))
                        obtain ⟨y32, rfl, rfl, by32⟩ := h9
                        refine pq_id1 (pq_icmp_eq ?_)
                        refine And.intro (fun c33 => ?_) (fun c33 => ?_)
                        · skip
                          have dc33 : (y31).toInt = (y32 : Int32).toInt := congrArg Int32.toInt c33
                          refine hC.1 8 118 _ _ rfl _ _ _ _ _ ?_
                          refine pq_iconst (pq_nil ?_)
                          refine hC.1 9 119 _ _ rfl _ _ _ _ _ ?_
                          refine pq_istore [some (.ref h), some (.int x1), some (.int x2), some (.int z3_24), some (.int z4_24), some (.int y6), some (.int (0 : Int32))] rfl (pq_iload_n3 (pq_iload6 (pq_icond_eq ?_)))
                          refine And.intro (fun _ => ?_) (fun c9 => absurd c9 (by decide))
                          refine hC.1 10 131 _ _ rfl _ _ _ _ _ ?_
                          refine pq_iconst (pq_nil ?_)
                          refine hC.1 11 132 _ _ rfl _ _ _ _ _ ?_
                          refine pq_iadd ?_
                          intro m34 em_132
                          try have e34 : m34.toInt = (z3_24).toInt + (0) := by rw [em_132]; exact pm_addc _ _ (0) rfl (by omega) (by omega)
                          refine pq_istore_n [some (.ref h), some (.int x1), some (.int x2), some (.int m34), some (.int z4_24), some (.int y6), some (.int (0 : Int32))] rfl (pq_nil ?_)
                          refine hC.1 12 134 _ _ rfl _ _ _ _ _ ?_
                          refine pq_iinc (fun zm_9 => [some (.ref h), some (.int x1), some (.int x2), some (.int m34), some (.int zm_9), some (.int y6), some (.int (0 : Int32))]) rfl (fun _ => rfl) ?_
                          intro m35 em_134
                          try have e35 : m35.toInt = (z4_24).toInt + (1) := by rw [em_134]; exact pm_addc _ _ (1) rfl (by omega) (by omega)
                          refine pq_goto ?_
                          exact hC.2 [false, false, false, false, false, true, true] _ _ _ _ _ _ (ih4 m34 m35 (by omega) (by omega))
                        · skip
                          have dc33 := pm_neI c33
                          refine pq_nil ?_
                          refine hC.1 7 114 _ _ rfl _ _ _ _ _ ?_
                          refine pq_iconst (pq_goto ?_)
                          refine hC.1 9 119 _ _ rfl _ _ _ _ _ ?_
                          refine pq_istore [some (.ref h), some (.int x1), some (.int x2), some (.int z3_24), some (.int z4_24), some (.int y6), some (.int (1 : Int32))] rfl (pq_iload_n3 (pq_iload6 (pq_icond_eq ?_)))
                          refine And.intro (fun c9 => absurd c9 (by decide)) (fun _ => ?_)
                          refine pq_iconst (pq_goto ?_)
                          refine hC.1 11 132 _ _ rfl _ _ _ _ _ ?_
                          refine pq_iadd ?_
                          intro m36 em_132
                          try have e36 : m36.toInt = (z3_24).toInt + (1) := by rw [em_132]; exact pm_addc _ _ (1) rfl (by omega) (by omega)
                          refine pq_istore_n [some (.ref h), some (.int x1), some (.int x2), some (.int m36), some (.int z4_24), some (.int y6), some (.int (1 : Int32))] rfl (pq_nil ?_)
                          refine hC.1 12 134 _ _ rfl _ _ _ _ _ ?_
                          refine pq_iinc (fun zm_9 => [some (.ref h), some (.int x1), some (.int x2), some (.int m36), some (.int zm_9), some (.int y6), some (.int (1 : Int32))]) rfl (fun _ => rfl) ?_
                          intro m37 em_134
                          try have e37 : m37.toInt = (z4_24).toInt + (1) := by rw [em_134]; exact pm_addc _ _ (1) rfl (by omega) (by omega)
                          refine pq_goto ?_
                          exact hC.2 [false, false, false, false, false, true, true] _ _ _ _ _ _ (ih4 m36 m37 (by omega) (by omega))
                · skip
                  have dc11 : (x2).toInt = ((1 : Int32) : Int32).toInt := congrArg Int32.toInt c11
                  refine pq_iload4 (pq_iload5 (pq_icmp_ne ?_))
                  refine And.intro (fun c38 => ?_) (fun c38 => ?_)
                  · skip
                    have dc38 := pm_neI c38
                    refine hC.1 7 114 _ _ rfl _ _ _ _ _ ?_
                    refine pq_iconst (pq_goto ?_)
                    refine hC.1 9 119 _ _ rfl _ _ _ _ _ ?_
                    refine pq_istore [some (.ref h), some (.int x1), some (.int x2), some (.int z3_24), some (.int z4_24), some (.int y6), some (.int (1 : Int32))] rfl (pq_iload_n3 (pq_iload6 (pq_icond_eq ?_)))
                    refine And.intro (fun c9 => absurd c9 (by decide)) (fun _ => ?_)
                    refine pq_iconst (pq_goto ?_)
                    refine hC.1 11 132 _ _ rfl _ _ _ _ _ ?_
                    refine pq_iadd ?_
                    intro m39 em_132
                    try have e39 : m39.toInt = (z3_24).toInt + (1) := by rw [em_132]; exact pm_addc _ _ (1) rfl (by omega) (by omega)
                    refine pq_istore_n [some (.ref h), some (.int x1), some (.int x2), some (.int m39), some (.int z4_24), some (.int y6), some (.int (1 : Int32))] rfl (pq_nil ?_)
                    refine hC.1 12 134 _ _ rfl _ _ _ _ _ ?_
                    refine pq_iinc (fun zm_9 => [some (.ref h), some (.int x1), some (.int x2), some (.int m39), some (.int zm_9), some (.int y6), some (.int (1 : Int32))]) rfl (fun _ => rfl) ?_
                    intro m40 em_134
                    try have e40 : m40.toInt = (z4_24).toInt + (1) := by rw [em_134]; exact pm_addc _ _ (1) rfl (by omega) (by omega)
                    refine pq_goto ?_
                    exact hC.2 [false, false, false, false, false, true, true] _ _ _ _ _ _ (ih4 m39 m40 (by omega) (by omega))
                  · skip
                    have dc38 : (z4_24).toInt = (y6 : Int32).toInt := congrArg Int32.toInt c38
                    refine pq_nil ?_
                    refine hC.1 5 71 _ _ rfl _ _ _ _ _ ?_
                    refine pq_iload_n2 ?_
                    have k2 : (2 : Int32).toInt = 2 := rfl
                    refine pq_iconst (pq_icmp_ne ?_)
                    refine And.intro (fun c41 => ?_) (fun c41 => ?_)
                    · skip
                      have dc41 := pm_neI c41
                      refine hC.1 6 93 _ _ rfl _ _ _ _ _ ?_
                      refine pq_iload_n2 (pq_iconst (pq_icmp_ne ?_))
                      refine And.intro (fun c42 => ?_) (fun c42 => ?_)
                      · skip
                        have dc42 := pm_neI c42
                        refine hC.1 8 118 _ _ rfl _ _ _ _ _ ?_
                        refine pq_iconst (pq_nil ?_)
                        refine hC.1 9 119 _ _ rfl _ _ _ _ _ ?_
                        refine pq_istore [some (.ref h), some (.int x1), some (.int x2), some (.int z3_24), some (.int z4_24), some (.int y6), some (.int (0 : Int32))] rfl (pq_iload_n3 (pq_iload6 (pq_icond_eq ?_)))
                        refine And.intro (fun _ => ?_) (fun c9 => absurd c9 (by decide))
                        refine hC.1 10 131 _ _ rfl _ _ _ _ _ ?_
                        refine pq_iconst (pq_nil ?_)
                        refine hC.1 11 132 _ _ rfl _ _ _ _ _ ?_
                        refine pq_iadd ?_
                        intro m43 em_132
                        try have e43 : m43.toInt = (z3_24).toInt + (0) := by rw [em_132]; exact pm_addc _ _ (0) rfl (by omega) (by omega)
                        refine pq_istore_n [some (.ref h), some (.int x1), some (.int x2), some (.int m43), some (.int z4_24), some (.int y6), some (.int (0 : Int32))] rfl (pq_nil ?_)
                        refine hC.1 12 134 _ _ rfl _ _ _ _ _ ?_
                        refine pq_iinc (fun zm_9 => [some (.ref h), some (.int x1), some (.int x2), some (.int m43), some (.int zm_9), some (.int y6), some (.int (0 : Int32))]) rfl (fun _ => rfl) ?_
                        intro m44 em_134
                        try have e44 : m44.toInt = (z4_24).toInt + (1) := by rw [em_134]; exact pm_addc _ _ (1) rfl (by omega) (by omega)
                        refine pq_goto ?_
                        exact hC.2 [false, false, false, false, false, true, true] _ _ _ _ _ _ (ih4 m43 m44 (by omega) (by omega))
                      · skip
                        have dc42 : (x2).toInt = ((3 : Int32) : Int32).toInt := congrArg Int32.toInt c42
                        refine pq_aload_n0 (pq_iload4 (pq_iv1_11 ?_))
                        refine And.intro (Exists.intro _ md_o) (Exists.intro _ (Exists.intro _ (Exists.intro _ (Exists.intro _ (And.intro (c_X11_bondOf D v f hv hf z4_24 (by omega)) (And.intro rfl (fun r9 A9 h9 => ?_)))))))
                        obtain ⟨y45, rfl, rfl, by45⟩ := h9
                        refine pq_id1 (pq_aload_n0 (pq_iload_n1 (pq_iload5 (pq_iv2_11 ?_))))
                        refine And.intro (Exists.intro _ md_o) (Exists.intro _ (Exists.intro _ (Exists.intro _ (Exists.intro _ (And.intro (c_X11_wasBond D v f hv hf x1 y6 (by omega) (by omega)) (And.intro rfl (fun r9 A9 h9 => ?_)))))))
                        obtain ⟨y46, rfl, rfl, by46⟩ := h9
                        refine pq_id1 (pq_icmp_eq ?_)
                        refine And.intro (fun c47 => ?_) (fun c47 => ?_)
                        · skip
                          have dc47 : (y45).toInt = (y46 : Int32).toInt := congrArg Int32.toInt c47
                          refine hC.1 8 118 _ _ rfl _ _ _ _ _ ?_
                          refine pq_iconst (pq_nil ?_)
                          refine hC.1 9 119 _ _ rfl _ _ _ _ _ ?_
                          refine pq_istore [some (.ref h), some (.int x1), some (.int x2), some (.int z3_24), some (.int z4_24), some (.int y6), some (.int (0 : Int32))] rfl (pq_iload_n3 (pq_iload6 (pq_icond_eq ?_)))
                          refine And.intro (fun _ => ?_) (fun c9 => absurd c9 (by decide))
                          refine hC.1 10 131 _ _ rfl _ _ _ _ _ ?_
                          refine pq_iconst (pq_nil ?_)
                          refine hC.1 11 132 _ _ rfl _ _ _ _ _ ?_
                          refine pq_iadd ?_
                          intro m48 em_132
                          try have e48 : m48.toInt = (z3_24).toInt + (0) := by rw [em_132]; exact pm_addc _ _ (0) rfl (by omega) (by omega)
                          refine pq_istore_n [some (.ref h), some (.int x1), some (.int x2), some (.int m48), some (.int z4_24), some (.int y6), some (.int (0 : Int32))] rfl (pq_nil ?_)
                          refine hC.1 12 134 _ _ rfl _ _ _ _ _ ?_
                          refine pq_iinc (fun zm_9 => [some (.ref h), some (.int x1), some (.int x2), some (.int m48), some (.int zm_9), some (.int y6), some (.int (0 : Int32))]) rfl (fun _ => rfl) ?_
                          intro m49 em_134
                          try have e49 : m49.toInt = (z4_24).toInt + (1) := by rw [em_134]; exact pm_addc _ _ (1) rfl (by omega) (by omega)
                          refine pq_goto ?_
                          exact hC.2 [false, false, false, false, false, true, true] _ _ _ _ _ _ (ih4 m48 m49 (by omega) (by omega))
                        · skip
                          have dc47 := pm_neI c47
                          refine pq_nil ?_
                          refine hC.1 7 114 _ _ rfl _ _ _ _ _ ?_
                          refine pq_iconst (pq_goto ?_)
                          refine hC.1 9 119 _ _ rfl _ _ _ _ _ ?_
                          refine pq_istore [some (.ref h), some (.int x1), some (.int x2), some (.int z3_24), some (.int z4_24), some (.int y6), some (.int (1 : Int32))] rfl (pq_iload_n3 (pq_iload6 (pq_icond_eq ?_)))
                          refine And.intro (fun c9 => absurd c9 (by decide)) (fun _ => ?_)
                          refine pq_iconst (pq_goto ?_)
                          refine hC.1 11 132 _ _ rfl _ _ _ _ _ ?_
                          refine pq_iadd ?_
                          intro m50 em_132
                          try have e50 : m50.toInt = (z3_24).toInt + (1) := by rw [em_132]; exact pm_addc _ _ (1) rfl (by omega) (by omega)
                          refine pq_istore_n [some (.ref h), some (.int x1), some (.int x2), some (.int m50), some (.int z4_24), some (.int y6), some (.int (1 : Int32))] rfl (pq_nil ?_)
                          refine hC.1 12 134 _ _ rfl _ _ _ _ _ ?_
                          refine pq_iinc (fun zm_9 => [some (.ref h), some (.int x1), some (.int x2), some (.int m50), some (.int zm_9), some (.int y6), some (.int (1 : Int32))]) rfl (fun _ => rfl) ?_
                          intro m51 em_134
                          try have e51 : m51.toInt = (z4_24).toInt + (1) := by rw [em_134]; exact pm_addc _ _ (1) rfl (by omega) (by omega)
                          refine pq_goto ?_
                          exact hC.2 [false, false, false, false, false, true, true] _ _ _ _ _ _ (ih4 m50 m51 (by omega) (by omega))
                    · skip
                      have dc41 : (x2).toInt = ((2 : Int32) : Int32).toInt := congrArg Int32.toInt c41
                      refine pq_aload_n0 (qgm_colours (pq_iload4 (qlm_colours D (by omega) ?_)))
                      have w52 : (0 : Int) ≤ (f 0 (z4_24).toInt.toNat).toInt ∧ (f 0 (z4_24).toInt.toNat).toInt ≤ (23 : Int) := hf 0 _
                      refine pq_aload_n0 (pq_iload_n1 (pq_iload5 (pq_iv2_11 ?_)))
                      refine And.intro (Exists.intro _ md_o) (Exists.intro _ (Exists.intro _ (Exists.intro _ (Exists.intro _ (And.intro (c_X11_wasColour D v f hv hf x1 y6 (by omega) (by omega)) (And.intro rfl (fun r9 A9 h9 => ?_)))))))
                      obtain ⟨y53, rfl, rfl, by53⟩ := h9
                      refine pq_id1 (pq_icmp_ne ?_)
                      refine And.intro (fun c54 => ?_) (fun c54 => ?_)
                      · skip
                        have dc54 := pm_neI c54
                        refine hC.1 7 114 _ _ rfl _ _ _ _ _ ?_
                        refine pq_iconst (pq_goto ?_)
                        refine hC.1 9 119 _ _ rfl _ _ _ _ _ ?_
                        refine pq_istore [some (.ref h), some (.int x1), some (.int x2), some (.int z3_24), some (.int z4_24), some (.int y6), some (.int (1 : Int32))] rfl (pq_iload_n3 (pq_iload6 (pq_icond_eq ?_)))
                        refine And.intro (fun c9 => absurd c9 (by decide)) (fun _ => ?_)
                        refine pq_iconst (pq_goto ?_)
                        refine hC.1 11 132 _ _ rfl _ _ _ _ _ ?_
                        refine pq_iadd ?_
                        intro m55 em_132
                        try have e55 : m55.toInt = (z3_24).toInt + (1) := by rw [em_132]; exact pm_addc _ _ (1) rfl (by omega) (by omega)
                        refine pq_istore_n [some (.ref h), some (.int x1), some (.int x2), some (.int m55), some (.int z4_24), some (.int y6), some (.int (1 : Int32))] rfl (pq_nil ?_)
                        refine hC.1 12 134 _ _ rfl _ _ _ _ _ ?_
                        refine pq_iinc (fun zm_9 => [some (.ref h), some (.int x1), some (.int x2), some (.int m55), some (.int zm_9), some (.int y6), some (.int (1 : Int32))]) rfl (fun _ => rfl) ?_
                        intro m56 em_134
                        try have e56 : m56.toInt = (z4_24).toInt + (1) := by rw [em_134]; exact pm_addc _ _ (1) rfl (by omega) (by omega)
                        refine pq_goto ?_
                        exact hC.2 [false, false, false, false, false, true, true] _ _ _ _ _ _ (ih4 m55 m56 (by omega) (by omega))
                      · skip
                        have dc54 : ((f 0 (z4_24).toInt.toNat)).toInt = (y53 : Int32).toInt := congrArg Int32.toInt c54
                        refine pq_nil ?_
                        refine hC.1 6 93 _ _ rfl _ _ _ _ _ ?_
                        refine pq_iload_n2 (pq_iconst (pq_icmp_ne ?_))
                        refine And.intro (fun c57 => ?_) (fun c57 => ?_)
                        · skip
                          have dc57 := pm_neI c57
                          refine hC.1 8 118 _ _ rfl _ _ _ _ _ ?_
                          refine pq_iconst (pq_nil ?_)
                          refine hC.1 9 119 _ _ rfl _ _ _ _ _ ?_
                          refine pq_istore [some (.ref h), some (.int x1), some (.int x2), some (.int z3_24), some (.int z4_24), some (.int y6), some (.int (0 : Int32))] rfl (pq_iload_n3 (pq_iload6 (pq_icond_eq ?_)))
                          refine And.intro (fun _ => ?_) (fun c9 => absurd c9 (by decide))
                          refine hC.1 10 131 _ _ rfl _ _ _ _ _ ?_
                          refine pq_iconst (pq_nil ?_)
                          refine hC.1 11 132 _ _ rfl _ _ _ _ _ ?_
                          refine pq_iadd ?_
                          intro m58 em_132
                          try have e58 : m58.toInt = (z3_24).toInt + (0) := by rw [em_132]; exact pm_addc _ _ (0) rfl (by omega) (by omega)
                          refine pq_istore_n [some (.ref h), some (.int x1), some (.int x2), some (.int m58), some (.int z4_24), some (.int y6), some (.int (0 : Int32))] rfl (pq_nil ?_)
                          refine hC.1 12 134 _ _ rfl _ _ _ _ _ ?_
                          refine pq_iinc (fun zm_9 => [some (.ref h), some (.int x1), some (.int x2), some (.int m58), some (.int zm_9), some (.int y6), some (.int (0 : Int32))]) rfl (fun _ => rfl) ?_
                          intro m59 em_134
                          try have e59 : m59.toInt = (z4_24).toInt + (1) := by rw [em_134]; exact pm_addc _ _ (1) rfl (by omega) (by omega)
                          refine pq_goto ?_
                          exact hC.2 [false, false, false, false, false, true, true] _ _ _ _ _ _ (ih4 m58 m59 (by omega) (by omega))
                        · skip
                          have dc57 : (x2).toInt = ((3 : Int32) : Int32).toInt := congrArg Int32.toInt c57
                          refine pq_aload_n0 (pq_iload4 (pq_iv1_11 ?_))
                          refine And.intro (Exists.intro _ md_o) (Exists.intro _ (Exists.intro _ (Exists.intro _ (Exists.intro _ (And.intro (c_X11_bondOf D v f hv hf z4_24 (by omega)) (And.intro rfl (fun r9 A9 h9 => ?_)))))))
                          obtain ⟨y60, rfl, rfl, by60⟩ := h9
                          refine pq_id1 (pq_aload_n0 (pq_iload_n1 (pq_iload5 (pq_iv2_11 ?_))))
                          refine And.intro (Exists.intro _ md_o) (Exists.intro _ (Exists.intro _ (Exists.intro _ (Exists.intro _ (And.intro (c_X11_wasBond D v f hv hf x1 y6 (by omega) (by omega)) (And.intro rfl (fun r9 A9 h9 => ?_)))))))
                          obtain ⟨y61, rfl, rfl, by61⟩ := h9
                          refine pq_id1 (pq_icmp_eq ?_)
                          refine And.intro (fun c62 => ?_) (fun c62 => ?_)
                          · skip
                            have dc62 : (y60).toInt = (y61 : Int32).toInt := congrArg Int32.toInt c62
                            refine hC.1 8 118 _ _ rfl _ _ _ _ _ ?_
                            refine pq_iconst (pq_nil ?_)
                            refine hC.1 9 119 _ _ rfl _ _ _ _ _ ?_
                            refine pq_istore [some (.ref h), some (.int x1), some (.int x2), some (.int z3_24), some (.int z4_24), some (.int y6), some (.int (0 : Int32))] rfl (pq_iload_n3 (pq_iload6 (pq_icond_eq ?_)))
                            refine And.intro (fun _ => ?_) (fun c9 => absurd c9 (by decide))
                            refine hC.1 10 131 _ _ rfl _ _ _ _ _ ?_
                            refine pq_iconst (pq_nil ?_)
                            refine hC.1 11 132 _ _ rfl _ _ _ _ _ ?_
                            refine pq_iadd ?_
                            intro m63 em_132
                            try have e63 : m63.toInt = (z3_24).toInt + (0) := by rw [em_132]; exact pm_addc _ _ (0) rfl (by omega) (by omega)
                            refine pq_istore_n [some (.ref h), some (.int x1), some (.int x2), some (.int m63), some (.int z4_24), some (.int y6), some (.int (0 : Int32))] rfl (pq_nil ?_)
                            refine hC.1 12 134 _ _ rfl _ _ _ _ _ ?_
                            refine pq_iinc (fun zm_9 => [some (.ref h), some (.int x1), some (.int x2), some (.int m63), some (.int zm_9), some (.int y6), some (.int (0 : Int32))]) rfl (fun _ => rfl) ?_
                            intro m64 em_134
                            try have e64 : m64.toInt = (z4_24).toInt + (1) := by rw [em_134]; exact pm_addc _ _ (1) rfl (by omega) (by omega)
                            refine pq_goto ?_
                            exact hC.2 [false, false, false, false, false, true, true] _ _ _ _ _ _ (ih4 m63 m64 (by omega) (by omega))
                          · skip
                            have dc62 := pm_neI c62
                            refine pq_nil ?_
                            refine hC.1 7 114 _ _ rfl _ _ _ _ _ ?_
                            refine pq_iconst (pq_goto ?_)
                            refine hC.1 9 119 _ _ rfl _ _ _ _ _ ?_
                            refine pq_istore [some (.ref h), some (.int x1), some (.int x2), some (.int z3_24), some (.int z4_24), some (.int y6), some (.int (1 : Int32))] rfl (pq_iload_n3 (pq_iload6 (pq_icond_eq ?_)))
                            refine And.intro (fun c9 => absurd c9 (by decide)) (fun _ => ?_)
                            refine pq_iconst (pq_goto ?_)
                            refine hC.1 11 132 _ _ rfl _ _ _ _ _ ?_
                            refine pq_iadd ?_
                            intro m65 em_132
                            try have e65 : m65.toInt = (z3_24).toInt + (1) := by rw [em_132]; exact pm_addc _ _ (1) rfl (by omega) (by omega)
                            refine pq_istore_n [some (.ref h), some (.int x1), some (.int x2), some (.int m65), some (.int z4_24), some (.int y6), some (.int (1 : Int32))] rfl (pq_nil ?_)
                            refine hC.1 12 134 _ _ rfl _ _ _ _ _ ?_
                            refine pq_iinc (fun zm_9 => [some (.ref h), some (.int x1), some (.int x2), some (.int m65), some (.int zm_9), some (.int y6), some (.int (1 : Int32))]) rfl (fun _ => rfl) ?_
                            intro m66 em_134
                            try have e66 : m66.toInt = (z4_24).toInt + (1) := by rw [em_134]; exact pm_addc _ _ (1) rfl (by omega) (by omega)
                            refine pq_goto ?_
                            exact hC.2 [false, false, false, false, false, true, true] _ _ _ _ _ _ (ih4 m65 m66 (by omega) (by omega))
            · skip
              refine pq_goto ?_
              refine hC.1 12 134 _ _ rfl _ _ _ _ _ ?_
              refine pq_iinc (fun zm_9 => [some (.ref h), some (.int x1), some (.int x2), some (.int z3_24), some (.int zm_9), some (.int y6), none]) rfl (fun _ => rfl) ?_
              intro m67 em_134
              try have e67 : m67.toInt = (z4_24).toInt + (1) := by rw [em_134]; exact pm_addc _ _ (1) rfl (by omega) (by omega)
              refine pq_goto ?_
              exact hC.2 [false, false, false, false, false, true, false] _ _ _ _ _ _ (ih4 z3_24 m67 (by omega) (by omega))
      exact lp3 (200 - (0 : Int32).toInt).toNat.succ (0 : Int32) (0 : Int32) (by omega) (by omega)
    · skip
      refine pq_id1 (pq_icond_ne ?_)
      refine And.intro (fun c9 => absurd c9 (by decide)) (fun _ => ?_)
      refine pq_nil ?_
      refine hC.1 1 17 _ _ rfl _ _ _ _ _ ?_
      have km1 : (-1 : Int32).toInt = -1 := rfl
      refine pq_iconst (pq_iret ?_)
      exact ⟨rfl, fun e9 => absurd e9 (by decide), rfl, (-1 : Int32), rfl, rfl, by exact True.intro⟩
  · skip
    have k0 : (0 : Int32).toInt = 0 := rfl
    refine pq_id1 (pq_icond_eq ?_)
    refine And.intro (fun _ => ?_) (fun c9 => absurd c9 (by decide))
    refine hC.1 1 17 _ _ rfl _ _ _ _ _ ?_
    have km1 : (-1 : Int32).toInt = -1 := rfl
    refine pq_iconst (pq_iret ?_)
    exact ⟨rfl, fun e9 => absurd e9 (by decide), rfl, (-1 : Int32), rfl, rfl, by exact True.intro⟩

end
end
section
section
variable {l : Launch} {g : pm_G} {A0 : pm_H} {h : Nat} {q : Nat → Nat}
set_option maxRecDepth 100000 in
set_option maxHeartbeats 2000000 in
theorem c_X11_isNewSide (D : md_D h q) (v : Nat → Int32) (f : Nat → Nat → Int32) (hv : md_V v) (hf : md_F f) (x1 : Int32) (x2 : Int32) (p0 : 0 ≤ x1.toInt ∧ x1.toInt < x2.toInt ∧ x2.toInt < (v 0).toInt) : pm_Mt l g 239 0 0 0 [.ref h, .int x1, .int x2] (md A0 g h q v f) (md_Qp (md A0 g h q v f) (fun r => (r = 1 ∧ (True)) ∨ (r = 0 ∧ (True)))) := by
  refine mt_X11_isNewSide rfl (fun J hC => ?_)
  have hv9 := hv
  unfold md_V at hv9
  have rg_x1 := pm_rng x1
  have rg_x2 := pm_rng x2
  show J 0 [some (.ref h), some (.int x1), some (.int x2), none, none, none] [] (md A0 g h q v f) 0 0
  refine hC.1 0 0 _ _ rfl _ _ _ _ _ ?_
  refine pq_iload_n1 ?_
  have k1 : (1 : Int32).toInt = 1 := rfl
  refine pq_iconst (pq_iadd ?_)
  intro m1 em_2
  try have e1 : m1.toInt = (x1).toInt + (1) := by rw [em_2]; exact pm_addc _ _ (1) rfl (by omega) (by omega)
  refine pq_istore_n [some (.ref h), some (.int x1), some (.int x2), some (.int m1), none, none] rfl (pq_nil ?_)
  have lp2 : ∀ (n : Nat) (z3_4 : Int32), (x1.toInt + 1 ≤ z3_4.toInt ∧ z3_4.toInt ≤ x2.toInt) → 200 - z3_4.toInt < (n : Int) → J 4 [some (.ref h), some (.int x1), some (.int x2), some (.int z3_4), none, none] [] (md A0 g h q v f) 0 0 := by
    intro n
    induction n with
    | zero =>
      intro z3_4 j0_4 j1_4
      omega
    | succ n ih3 =>
      intro z3_4 j0_4 j1_4
      refine hC.1 1 4 _ _ rfl _ _ _ _ _ ?_
      refine pq_iload_n3 (pq_iload_n2 (pq_icmp_ge ?_))
      refine And.intro (fun c4 => ?_) (fun c4 => ?_)
      · skip
        refine hC.1 8 109 _ _ rfl _ _ _ _ _ ?_
        refine pq_iconst (pq_iret ?_)
        exact ⟨rfl, fun _ => (by decide), rfl, (1 : Int32), rfl, rfl, Or.inl ⟨rfl, by first | omega | (dsimp only; omega) | trivial⟩⟩
      · skip
        refine pq_aload_n0 (qgm_colours (pq_iload_n3 (qlm_colours D (by omega) ?_)))
        have w5 : (0 : Int) ≤ (f 0 (z3_4).toInt.toNat).toInt ∧ (f 0 (z3_4).toInt.toNat).toInt ≤ (23 : Int) := hf 0 _
        refine pq_aload_n0 (qgm_colours (pq_iload_n2 (qlm_colours D (by omega) ?_)))
        have w6 : (0 : Int) ≤ (f 0 (x2).toInt.toNat).toInt ∧ (f 0 (x2).toInt.toNat).toInt ≤ (23 : Int) := hf 0 _
        refine pq_icmp_ne ?_
        refine And.intro (fun c7 => ?_) (fun c7 => ?_)
        · skip
          have dc7 := pm_neI c7
          refine hC.1 2 47 _ _ rfl _ _ _ _ _ ?_
          have k0 : (0 : Int32).toInt = 0 := rfl
          refine pq_iconst (pq_nil ?_)
          refine hC.1 3 48 _ _ rfl _ _ _ _ _ ?_
          refine pq_istore [some (.ref h), some (.int x1), some (.int x2), some (.int z3_4), some (.int (0 : Int32)), none] rfl (pq_aload_n0 (qgm_colours (pq_iload_n3 (qlm_colours D (by omega) ?_))))
          have w8 : (0 : Int) ≤ (f 0 (z3_4).toInt.toNat).toInt ∧ (f 0 (z3_4).toInt.toNat).toInt ≤ (23 : Int) := hf 0 _
          refine pq_aload_n0 (qgm_colours (pq_iload_n2 (pq_iconst (pq_isub ?_))))
          intro m9 em_62
          try have e9 : m9.toInt = (x2).toInt - (1) := by rw [em_62]; exact pm_subc _ _ (1) rfl (by omega) (by omega)
          refine qlm_colours D (by omega) ?_
          have w10 : (0 : Int) ≤ (f 0 (m9).toInt.toNat).toInt ∧ (f 0 (m9).toInt.toNat).toInt ≤ (23 : Int) := hf 0 _
          refine pq_icmp_ne ?_
          refine And.intro (fun c11 => ?_) (fun c11 => ?_)
          · skip
            have dc11 := pm_neI c11
            refine hC.1 4 88 _ _ rfl _ _ _ _ _ ?_
            refine pq_iconst (pq_nil ?_)
            refine hC.1 5 89 _ _ rfl _ _ _ _ _ ?_
            refine pq_istore [some (.ref h), some (.int x1), some (.int x2), some (.int z3_4), some (.int (0 : Int32)), some (.int (0 : Int32))] rfl (pq_iload4 (pq_icond_ne ?_))
            refine And.intro (fun c9 => absurd c9 (by decide)) (fun _ => ?_)
            refine pq_iload5 (pq_icond_eq ?_)
            refine And.intro (fun _ => ?_) (fun c9 => absurd c9 (by decide))
            refine hC.1 7 103 _ _ rfl _ _ _ _ _ ?_
            refine pq_iinc (fun zm_9 => [some (.ref h), some (.int x1), some (.int x2), some (.int zm_9), some (.int (0 : Int32)), some (.int (0 : Int32))]) rfl (fun _ => rfl) ?_
            intro m12 em_103
            try have e12 : m12.toInt = (z3_4).toInt + (1) := by rw [em_103]; exact pm_addc _ _ (1) rfl (by omega) (by omega)
            refine pq_goto ?_
            exact hC.2 [false, false, false, false, true, true] _ _ _ _ _ _ (ih3 m12 (by omega) (by omega))
          · skip
            have dc11 : ((f 0 (z3_4).toInt.toNat)).toInt = ((f 0 (m9).toInt.toNat) : Int32).toInt := congrArg Int32.toInt c11
            refine pq_aload_n0 (qgm_colours (pq_iload_n3 (pq_iconst (pq_isub ?_))))
            intro m13 em_73
            try have e13 : m13.toInt = (z3_4).toInt - (1) := by rw [em_73]; exact pm_subc _ _ (1) rfl (by omega) (by omega)
            refine qlm_colours D (by omega) ?_
            have w14 : (0 : Int) ≤ (f 0 (m13).toInt.toNat).toInt ∧ (f 0 (m13).toInt.toNat).toInt ≤ (23 : Int) := hf 0 _
            refine pq_aload_n0 (qgm_colours (pq_iload_n2 (qlm_colours D (by omega) ?_)))
            have w15 : (0 : Int) ≤ (f 0 (x2).toInt.toNat).toInt ∧ (f 0 (x2).toInt.toNat).toInt ≤ (23 : Int) := hf 0 _
            refine pq_icmp_ne ?_
            refine And.intro (fun c16 => ?_) (fun c16 => ?_)
            · skip
              have dc16 := pm_neI c16
              refine hC.1 4 88 _ _ rfl _ _ _ _ _ ?_
              refine pq_iconst (pq_nil ?_)
              refine hC.1 5 89 _ _ rfl _ _ _ _ _ ?_
              refine pq_istore [some (.ref h), some (.int x1), some (.int x2), some (.int z3_4), some (.int (0 : Int32)), some (.int (0 : Int32))] rfl (pq_iload4 (pq_icond_ne ?_))
              refine And.intro (fun c9 => absurd c9 (by decide)) (fun _ => ?_)
              refine pq_iload5 (pq_icond_eq ?_)
              refine And.intro (fun _ => ?_) (fun c9 => absurd c9 (by decide))
              refine hC.1 7 103 _ _ rfl _ _ _ _ _ ?_
              refine pq_iinc (fun zm_9 => [some (.ref h), some (.int x1), some (.int x2), some (.int zm_9), some (.int (0 : Int32)), some (.int (0 : Int32))]) rfl (fun _ => rfl) ?_
              intro m17 em_103
              try have e17 : m17.toInt = (z3_4).toInt + (1) := by rw [em_103]; exact pm_addc _ _ (1) rfl (by omega) (by omega)
              refine pq_goto ?_
              exact hC.2 [false, false, false, false, true, true] _ _ _ _ _ _ (ih3 m17 (by omega) (by omega))
            · skip
              have dc16 : ((f 0 (m13).toInt.toNat)).toInt = ((f 0 (x2).toInt.toNat) : Int32).toInt := congrArg Int32.toInt c16
              refine pq_iconst (pq_goto ?_)
              refine hC.1 5 89 _ _ rfl _ _ _ _ _ ?_
              refine pq_istore [some (.ref h), some (.int x1), some (.int x2), some (.int z3_4), some (.int (0 : Int32)), some (.int (1 : Int32))] rfl (pq_iload4 (pq_icond_ne ?_))
              refine And.intro (fun c9 => absurd c9 (by decide)) (fun _ => ?_)
              refine pq_iload5 (pq_icond_eq ?_)
              refine And.intro (fun c9 => absurd c9 (by decide)) (fun _ => ?_)
              refine pq_nil ?_
              refine hC.1 6 101 _ _ rfl _ _ _ _ _ ?_
              refine pq_iconst (pq_iret ?_)
              exact ⟨rfl, fun _ => (by decide), rfl, (0 : Int32), rfl, rfl, Or.inr ⟨rfl, by first | omega | (dsimp only; omega) | trivial⟩⟩
        · skip
          have dc7 : ((f 0 (z3_4).toInt.toNat)).toInt = ((f 0 (x2).toInt.toNat) : Int32).toInt := congrArg Int32.toInt c7
          refine pq_aload_n0 (qgm_colours (pq_iload_n3 (pq_iconst (pq_isub ?_))))
          intro m18 em_30
          try have e18 : m18.toInt = (z3_4).toInt - (1) := by rw [em_30]; exact pm_subc _ _ (1) rfl (by omega) (by omega)
          refine qlm_colours D (by omega) ?_
          have w19 : (0 : Int) ≤ (f 0 (m18).toInt.toNat).toInt ∧ (f 0 (m18).toInt.toNat).toInt ≤ (23 : Int) := hf 0 _
          refine pq_aload_n0 (qgm_colours (pq_iload_n2 (pq_iconst (pq_isub ?_))))
          intro m20 em_38
          try have e20 : m20.toInt = (x2).toInt - (1) := by rw [em_38]; exact pm_subc _ _ (1) rfl (by omega) (by omega)
          refine qlm_colours D (by omega) ?_
          have w21 : (0 : Int) ≤ (f 0 (m20).toInt.toNat).toInt ∧ (f 0 (m20).toInt.toNat).toInt ≤ (23 : Int) := hf 0 _
          refine pq_icmp_ne ?_
          refine And.intro (fun c22 => ?_) (fun c22 => ?_)
          · skip
            have dc22 := pm_neI c22
            refine hC.1 2 47 _ _ rfl _ _ _ _ _ ?_
            have k0 : (0 : Int32).toInt = 0 := rfl
            refine pq_iconst (pq_nil ?_)
            refine hC.1 3 48 _ _ rfl _ _ _ _ _ ?_
            refine pq_istore [some (.ref h), some (.int x1), some (.int x2), some (.int z3_4), some (.int (0 : Int32)), none] rfl (pq_aload_n0 (qgm_colours (pq_iload_n3 (qlm_colours D (by omega) ?_))))
            have w23 : (0 : Int) ≤ (f 0 (z3_4).toInt.toNat).toInt ∧ (f 0 (z3_4).toInt.toNat).toInt ≤ (23 : Int) := hf 0 _
            refine pq_aload_n0 (qgm_colours (pq_iload_n2 (pq_iconst (pq_isub ?_))))
            intro m24 em_62
            try have e24 : m24.toInt = (x2).toInt - (1) := by rw [em_62]; exact pm_subc _ _ (1) rfl (by omega) (by omega)
            refine qlm_colours D (by omega) ?_
            have w25 : (0 : Int) ≤ (f 0 (m24).toInt.toNat).toInt ∧ (f 0 (m24).toInt.toNat).toInt ≤ (23 : Int) := hf 0 _
            refine pq_icmp_ne ?_
            refine And.intro (fun c26 => ?_) (fun c26 => ?_)
            · skip
              have dc26 := pm_neI c26
              refine hC.1 4 88 _ _ rfl _ _ _ _ _ ?_
              refine pq_iconst (pq_nil ?_)
              refine hC.1 5 89 _ _ rfl _ _ _ _ _ ?_
              refine pq_istore [some (.ref h), some (.int x1), some (.int x2), some (.int z3_4), some (.int (0 : Int32)), some (.int (0 : Int32))] rfl (pq_iload4 (pq_icond_ne ?_))
              refine And.intro (fun c9 => absurd c9 (by decide)) (fun _ => ?_)
              refine pq_iload5 (pq_icond_eq ?_)
              refine And.intro (fun _ => ?_) (fun c9 => absurd c9 (by decide))
              refine hC.1 7 103 _ _ rfl _ _ _ _ _ ?_
              refine pq_iinc (fun zm_9 => [some (.ref h), some (.int x1), some (.int x2), some (.int zm_9), some (.int (0 : Int32)), some (.int (0 : Int32))]) rfl (fun _ => rfl) ?_
              intro m27 em_103
              try have e27 : m27.toInt = (z3_4).toInt + (1) := by rw [em_103]; exact pm_addc _ _ (1) rfl (by omega) (by omega)
              refine pq_goto ?_
              exact hC.2 [false, false, false, false, true, true] _ _ _ _ _ _ (ih3 m27 (by omega) (by omega))
            · skip
              have dc26 : ((f 0 (z3_4).toInt.toNat)).toInt = ((f 0 (m24).toInt.toNat) : Int32).toInt := congrArg Int32.toInt c26
              refine pq_aload_n0 (qgm_colours (pq_iload_n3 (pq_iconst (pq_isub ?_))))
              intro m28 em_73
              try have e28 : m28.toInt = (z3_4).toInt - (1) := by rw [em_73]; exact pm_subc _ _ (1) rfl (by omega) (by omega)
              refine qlm_colours D (by omega) ?_
              have w29 : (0 : Int) ≤ (f 0 (m28).toInt.toNat).toInt ∧ (f 0 (m28).toInt.toNat).toInt ≤ (23 : Int) := hf 0 _
              refine pq_aload_n0 (qgm_colours (pq_iload_n2 (qlm_colours D (by omega) ?_)))
              have w30 : (0 : Int) ≤ (f 0 (x2).toInt.toNat).toInt ∧ (f 0 (x2).toInt.toNat).toInt ≤ (23 : Int) := hf 0 _
              refine pq_icmp_ne ?_
              refine And.intro (fun c31 => ?_) (fun c31 => ?_)
              · skip
                have dc31 := pm_neI c31
                refine hC.1 4 88 _ _ rfl _ _ _ _ _ ?_
                refine pq_iconst (pq_nil ?_)
                refine hC.1 5 89 _ _ rfl _ _ _ _ _ ?_
                refine pq_istore [some (.ref h), some (.int x1), some (.int x2), some (.int z3_4), some (.int (0 : Int32)), some (.int (0 : Int32))] rfl (pq_iload4 (pq_icond_ne ?_))
                refine And.intro (fun c9 => absurd c9 (by decide)) (fun _ => ?_)
                refine pq_iload5 (pq_icond_eq ?_)
                refine And.intro (fun _ => ?_) (fun c9 => absurd c9 (by decide))
                refine hC.1 7 103 _ _ rfl _ _ _ _ _ ?_
                refine pq_iinc (fun zm_9 => [some (.ref h), some (.int x1), some (.int x2), some (.int zm_9), some (.int (0 : Int32)), some (.int (0 : Int32))]) rfl (fun _ => rfl) ?_
                intro m32 em_103
                try have e32 : m32.toInt = (z3_4).toInt + (1) := by rw [em_103]; exact pm_addc _ _ (1) rfl (by omega) (by omega)
                refine pq_goto ?_
                exact hC.2 [false, false, false, false, true, true] _ _ _ _ _ _ (ih3 m32 (by omega) (by omega))
              · skip
                have dc31 : ((f 0 (m28).toInt.toNat)).toInt = ((f 0 (x2).toInt.toNat) : Int32).toInt := congrArg Int32.toInt c31
                refine pq_iconst (pq_goto ?_)
                refine hC.1 5 89 _ _ rfl _ _ _ _ _ ?_
                refine pq_istore [some (.ref h), some (.int x1), some (.int x2), some (.int z3_4), some (.int (0 : Int32)), some (.int (1 : Int32))] rfl (pq_iload4 (pq_icond_ne ?_))
                refine And.intro (fun c9 => absurd c9 (by decide)) (fun _ => ?_)
                refine pq_iload5 (pq_icond_eq ?_)
                refine And.intro (fun c9 => absurd c9 (by decide)) (fun _ => ?_)
                refine pq_nil ?_
                refine hC.1 6 101 _ _ rfl _ _ _ _ _ ?_
                refine pq_iconst (pq_iret ?_)
                exact ⟨rfl, fun _ => (by decide), rfl, (0 : Int32), rfl, rfl, Or.inr ⟨rfl, by first | omega | (dsimp only; omega) | trivial⟩⟩
          · skip
            have dc22 : ((f 0 (m18).toInt.toNat)).toInt = ((f 0 (m20).toInt.toNat) : Int32).toInt := congrArg Int32.toInt c22
            refine pq_iconst (pq_goto ?_)
            refine hC.1 3 48 _ _ rfl _ _ _ _ _ ?_
            refine pq_istore [some (.ref h), some (.int x1), some (.int x2), some (.int z3_4), some (.int (1 : Int32)), none] rfl (pq_aload_n0 (qgm_colours (pq_iload_n3 (qlm_colours D (by omega) ?_))))
            have w33 : (0 : Int) ≤ (f 0 (z3_4).toInt.toNat).toInt ∧ (f 0 (z3_4).toInt.toNat).toInt ≤ (23 : Int) := hf 0 _
            refine pq_aload_n0 (qgm_colours (pq_iload_n2 (pq_iconst (pq_isub ?_))))
            intro m34 em_62
            try have e34 : m34.toInt = (x2).toInt - (1) := by rw [em_62]; exact pm_subc _ _ (1) rfl (by omega) (by omega)
            refine qlm_colours D (by omega) ?_
            have w35 : (0 : Int) ≤ (f 0 (m34).toInt.toNat).toInt ∧ (f 0 (m34).toInt.toNat).toInt ≤ (23 : Int) := hf 0 _
            refine pq_icmp_ne ?_
            refine And.intro (fun c36 => ?_) (fun c36 => ?_)
            · skip
              have dc36 := pm_neI c36
              refine hC.1 4 88 _ _ rfl _ _ _ _ _ ?_
              have k0 : (0 : Int32).toInt = 0 := rfl
              refine pq_iconst (pq_nil ?_)
              refine hC.1 5 89 _ _ rfl _ _ _ _ _ ?_
              refine pq_istore [some (.ref h), some (.int x1), some (.int x2), some (.int z3_4), some (.int (1 : Int32)), some (.int (0 : Int32))] rfl (pq_iload4 (pq_icond_ne ?_))
              refine And.intro (fun _ => ?_) (fun c9 => absurd c9 (by decide))
              refine hC.1 6 101 _ _ rfl _ _ _ _ _ ?_
              refine pq_iconst (pq_iret ?_)
              exact ⟨rfl, fun _ => (by decide), rfl, (0 : Int32), rfl, rfl, Or.inr ⟨rfl, by first | omega | (dsimp only; omega) | trivial⟩⟩
            · skip
              have dc36 : ((f 0 (z3_4).toInt.toNat)).toInt = ((f 0 (m34).toInt.toNat) : Int32).toInt := congrArg Int32.toInt c36
              refine pq_aload_n0 (qgm_colours (pq_iload_n3 (pq_iconst (pq_isub ?_))))
              intro m37 em_73
              try have e37 : m37.toInt = (z3_4).toInt - (1) := by rw [em_73]; exact pm_subc _ _ (1) rfl (by omega) (by omega)
              refine qlm_colours D (by omega) ?_
              have w38 : (0 : Int) ≤ (f 0 (m37).toInt.toNat).toInt ∧ (f 0 (m37).toInt.toNat).toInt ≤ (23 : Int) := hf 0 _
              refine pq_aload_n0 (qgm_colours (pq_iload_n2 (qlm_colours D (by omega) ?_)))
              have w39 : (0 : Int) ≤ (f 0 (x2).toInt.toNat).toInt ∧ (f 0 (x2).toInt.toNat).toInt ≤ (23 : Int) := hf 0 _
              refine pq_icmp_ne ?_
              refine And.intro (fun c40 => ?_) (fun c40 => ?_)
              · skip
                have dc40 := pm_neI c40
                refine hC.1 4 88 _ _ rfl _ _ _ _ _ ?_
                have k0 : (0 : Int32).toInt = 0 := rfl
                refine pq_iconst (pq_nil ?_)
                refine hC.1 5 89 _ _ rfl _ _ _ _ _ ?_
                refine pq_istore [some (.ref h), some (.int x1), some (.int x2), some (.int z3_4), some (.int (1 : Int32)), some (.int (0 : Int32))] rfl (pq_iload4 (pq_icond_ne ?_))
                refine And.intro (fun _ => ?_) (fun c9 => absurd c9 (by decide))
                refine hC.1 6 101 _ _ rfl _ _ _ _ _ ?_
                refine pq_iconst (pq_iret ?_)
                exact ⟨rfl, fun _ => (by decide), rfl, (0 : Int32), rfl, rfl, Or.inr ⟨rfl, by first | omega | (dsimp only; omega) | trivial⟩⟩
              · skip
                have dc40 : ((f 0 (m37).toInt.toNat)).toInt = ((f 0 (x2).toInt.toNat) : Int32).toInt := congrArg Int32.toInt c40
                refine pq_iconst (pq_goto ?_)
                refine hC.1 5 89 _ _ rfl _ _ _ _ _ ?_
                refine pq_istore [some (.ref h), some (.int x1), some (.int x2), some (.int z3_4), some (.int (1 : Int32)), some (.int (1 : Int32))] rfl (pq_iload4 (pq_icond_ne ?_))
                refine And.intro (fun _ => ?_) (fun c9 => absurd c9 (by decide))
                refine hC.1 6 101 _ _ rfl _ _ _ _ _ ?_
                have k0 : (0 : Int32).toInt = 0 := rfl
                refine pq_iconst (pq_iret ?_)
                exact ⟨rfl, fun _ => (by decide), rfl, (0 : Int32), rfl, rfl, Or.inr ⟨rfl, by first | omega | (dsimp only; omega) | trivial⟩⟩
  exact lp2 (200 - m1.toInt).toNat.succ m1 (by omega) (by omega)

set_option maxRecDepth 100000 in
set_option maxHeartbeats 2000000 in
theorem c_X11_sides (D : md_D h q) (v : Nat → Int32) (f : Nat → Nat → Int32) (hv : md_V v) (hf : md_F f) (x1 : Int32) (x2 : Int32)  : pm_Mt l g 238 1 0 0 [.ref h, .int x1, .int x2] (md A0 g h q v f) (md_Qp (md A0 g h q v f) (fun r => True)) := by
  refine mt_X11_sides rfl (fun J hC => ?_)
  have hv9 := hv
  unfold md_V at hv9
  have rg_x1 := pm_rng x1
  have rg_x2 := pm_rng x2
  show J 0 [some (.ref h), some (.int x1), some (.int x2), none, none] [] (md A0 g h q v f) 0 0
  refine hC.1 0 0 _ _ rfl _ _ _ _ _ ?_
  refine pq_aload_n0 (pq_iload_n1 (pq_iload_n2 (pq_iv2_11 ?_)))
  refine And.intro (Exists.intro _ md_o) (Exists.intro _ (Exists.intro _ (Exists.intro _ (Exists.intro _ (And.intro (c_X11_isSpan D v f hv hf x1 x2 ) (And.intro rfl (fun r9 A9 h9 => ?_)))))))
  rcases h9 with ⟨y1, rfl, rfl, ⟨rfl, by1⟩ | ⟨rfl, by1⟩⟩
  · skip
    have k1 : (1 : Int32).toInt = 1 := rfl
    refine pq_id1 (pq_icond_ne ?_)
    refine And.intro (fun _ => ?_) (fun c9 => absurd c9 (by decide))
    refine hC.1 1 11 _ _ rfl _ _ _ _ _ ?_
    have k0 : (0 : Int32).toInt = 0 := rfl
    refine pq_iconst (pq_istore_n [some (.ref h), some (.int x1), some (.int x2), some (.int (0 : Int32)), none] rfl (pq_iload_n1 (pq_iconst (pq_iadd ?_))))
    intro m2 em_15
    try have e2 : m2.toInt = (x1).toInt + (1) := by rw [em_15]; exact pm_addc _ _ (1) rfl (by omega) (by omega)
    refine pq_istore [some (.ref h), some (.int x1), some (.int x2), some (.int (0 : Int32)), some (.int m2)] rfl (pq_nil ?_)
    have lp3 : ∀ (n : Nat) (z3_18 : Int32) (z4_18 : Int32), (x1.toInt + 1 ≤ z4_18.toInt ∧ z4_18.toInt ≤ x2.toInt + 1) → 200 - z4_18.toInt < (n : Int) → J 18 [some (.ref h), some (.int x1), some (.int x2), some (.int z3_18), some (.int z4_18)] [] (md A0 g h q v f) 0 0 := by
      intro n
      induction n with
      | zero =>
        intro z3_18 z4_18 j0_18 j1_18
        omega
      | succ n ih4 =>
        intro z3_18 z4_18 j0_18 j1_18
        refine hC.1 2 18 _ _ rfl _ _ _ _ _ ?_
        refine pq_iload4 (pq_iload_n2 (pq_icmp_gt ?_))
        refine And.intro (fun c5 => ?_) (fun c5 => ?_)
        · skip
          refine hC.1 4 62 _ _ rfl _ _ _ _ _ ?_
          refine pq_iload_n3 (pq_iret ?_)
          exact ⟨rfl, fun e9 => absurd e9 (by decide), rfl, z3_18, rfl, rfl, by exact True.intro⟩
        · skip
          refine pq_aload_n0 (qgm_colours (pq_iload4 (qlm_colours D (by omega) ?_)))
          have w6 : (0 : Int) ≤ (f 0 (z4_18).toInt.toNat).toInt ∧ (f 0 (z4_18).toInt.toNat).toInt ≤ (23 : Int) := hf 0 _
          refine pq_aload_n0 (qgm_colours (pq_iload4 (pq_iconst (pq_isub ?_))))
          intro m7 em_38
          try have e7 : m7.toInt = (z4_18).toInt - (1) := by rw [em_38]; exact pm_subc _ _ (1) rfl (by omega) (by omega)
          refine qlm_colours D (by omega) ?_
          have w8 : (0 : Int) ≤ (f 0 (m7).toInt.toNat).toInt ∧ (f 0 (m7).toInt.toNat).toInt ≤ (23 : Int) := hf 0 _
          refine pq_icmp_eq ?_
          refine And.intro (fun c9 => ?_) (fun c9 => ?_)
          · skip
            have dc9 : ((f 0 (z4_18).toInt.toNat)).toInt = ((f 0 (m7).toInt.toNat) : Int32).toInt := congrArg Int32.toInt c9
            refine hC.1 3 56 _ _ rfl _ _ _ _ _ ?_
            refine pq_iinc (fun zm_9 => [some (.ref h), some (.int x1), some (.int x2), some (.int z3_18), some (.int zm_9)]) rfl (fun _ => rfl) ?_
            intro m10 em_56
            try have e10 : m10.toInt = (z4_18).toInt + (1) := by rw [em_56]; exact pm_addc _ _ (1) rfl (by omega) (by omega)
            refine pq_goto ?_
            exact ih4 z3_18 m10 (by omega) (by omega)
          · skip
            have dc9 := pm_neI c9
            refine pq_aload_n0 (pq_iload_n1 (pq_iload4 (pq_iv2_11 ?_)))
            refine And.intro (Exists.intro _ md_o) (Exists.intro _ (Exists.intro _ (Exists.intro _ (Exists.intro _ (And.intro (c_X11_isNewSide D v f hv hf x1 z4_18 (by omega)) (And.intro rfl (fun r9 A9 h9 => ?_)))))))
            rcases h9 with ⟨y11, rfl, rfl, ⟨rfl, by11⟩ | ⟨rfl, by11⟩⟩
            · skip
              refine pq_id1 (pq_icond_eq ?_)
              refine And.intro (fun c9 => absurd c9 (by decide)) (fun _ => ?_)
              refine pq_iinc (fun zm_9 => [some (.ref h), some (.int x1), some (.int x2), some (.int zm_9), some (.int z4_18)]) rfl (fun _ => rfl) ?_
              intro m12 em_53
              try have e12 : m12.toInt = (z3_18).toInt + (1) := by rw [em_53]; exact pm_addc _ _ (1) rfl (by omega) (by omega)
              refine pq_nil ?_
              refine hC.1 3 56 _ _ rfl _ _ _ _ _ ?_
              refine pq_iinc (fun zm_9 => [some (.ref h), some (.int x1), some (.int x2), some (.int m12), some (.int zm_9)]) rfl (fun _ => rfl) ?_
              intro m13 em_56
              try have e13 : m13.toInt = (z4_18).toInt + (1) := by rw [em_56]; exact pm_addc _ _ (1) rfl (by omega) (by omega)
              refine pq_goto ?_
              exact ih4 m12 m13 (by omega) (by omega)
            · skip
              refine pq_id1 (pq_icond_eq ?_)
              refine And.intro (fun _ => ?_) (fun c9 => absurd c9 (by decide))
              refine hC.1 3 56 _ _ rfl _ _ _ _ _ ?_
              refine pq_iinc (fun zm_9 => [some (.ref h), some (.int x1), some (.int x2), some (.int z3_18), some (.int zm_9)]) rfl (fun _ => rfl) ?_
              intro m14 em_56
              try have e14 : m14.toInt = (z4_18).toInt + (1) := by rw [em_56]; exact pm_addc _ _ (1) rfl (by omega) (by omega)
              refine pq_goto ?_
              exact ih4 z3_18 m14 (by omega) (by omega)
    exact lp3 (200 - m2.toInt).toNat.succ (0 : Int32) m2 (by omega) (by omega)
  · skip
    have k0 : (0 : Int32).toInt = 0 := rfl
    refine pq_id1 (pq_icond_ne ?_)
    refine And.intro (fun c9 => absurd c9 (by decide)) (fun _ => ?_)
    have km1 : (-1 : Int32).toInt = -1 := rfl
    refine pq_iconst (pq_iret ?_)
    exact ⟨rfl, fun e9 => absurd e9 (by decide), rfl, (-1 : Int32), rfl, rfl, by exact True.intro⟩

set_option maxRecDepth 100000 in
set_option maxHeartbeats 2000000 in
theorem c_X11_haveAll (D : md_D h q) (v : Nat → Int32) (f : Nat → Nat → Int32) (hv : md_V v) (hf : md_F f) (x1 : Int32) (x2 : Int32) (x3 : Int32) (x4 : Int32) (p0 : 0 ≤ x1.toInt ∧ x2.toInt < 160 ∧ x1.toInt ≤ 160 ∧ -1 ≤ x2.toInt) (p1 : 1 ≤ x3.toInt ∧ x3.toInt ≤ 160) : pm_Mt l g 241 1 0 0 [.ref h, .int x1, .int x2, .int x3, .int x4] (md A0 g h q v f) (md_Qp (md A0 g h q v f) (fun r => (r = 1 ∧ (True)) ∨ (r = 0 ∧ (∃ p9 : Int, x1.toInt ≤ p9 ∧ p9 + x3.toInt - 1 ≤ x2.toInt ∧ ¬ setF (f 0) p9.toNat x3.toInt.toNat = x4)))) := by
  refine mt_X11_haveAll rfl (fun J hC => ?_)
  have hv9 := hv
  unfold md_V at hv9
  have rg_x1 := pm_rng x1
  have rg_x2 := pm_rng x2
  have rg_x3 := pm_rng x3
  have rg_x4 := pm_rng x4
  show J 0 [some (.ref h), some (.int x1), some (.int x2), some (.int x3), some (.int x4), none] [] (md A0 g h q v f) 0 0
  refine hC.1 0 0 _ _ rfl _ _ _ _ _ ?_
  refine pq_iload_n1 (pq_istore [some (.ref h), some (.int x1), some (.int x2), some (.int x3), some (.int x4), some (.int x1)] rfl (pq_nil ?_))
  have lp1 : ∀ (n : Nat) (z5_3 : Int32), (x1.toInt ≤ z5_3.toInt ∧ z5_3.toInt ≤ 161) → 200 - z5_3.toInt < (n : Int) → J 3 [some (.ref h), some (.int x1), some (.int x2), some (.int x3), some (.int x4), some (.int z5_3)] [] (md A0 g h q v f) 0 0 := by
    intro n
    induction n with
    | zero =>
      intro z5_3 j0_3 j1_3
      omega
    | succ n ih2 =>
      intro z5_3 j0_3 j1_3
      refine hC.1 1 3 _ _ rfl _ _ _ _ _ ?_
      refine pq_iload5 (pq_iload_n3 (pq_iadd ?_))
      intro m3 em_6
      try have e3 : m3.toInt = (z5_3).toInt + (x3).toInt := by rw [em_6]; exact pm_add _ _ (by omega) (by omega)
      have k1 : (1 : Int32).toInt = 1 := rfl
      refine pq_iconst (pq_isub ?_)
      intro m4 em_8
      try have e4 : m4.toInt = (m3).toInt - (1) := by rw [em_8]; exact pm_subc _ _ (1) rfl (by omega) (by omega)
      refine pq_iload_n2 (pq_icmp_gt ?_)
      refine And.intro (fun c5 => ?_) (fun c5 => ?_)
      · skip
        refine hC.1 3 38 _ _ rfl _ _ _ _ _ ?_
        refine pq_iconst (pq_iret ?_)
        exact ⟨rfl, fun _ => (by decide), rfl, (1 : Int32), rfl, rfl, Or.inl ⟨rfl, by trivial⟩⟩
      · skip
        refine pq_aload_n0 (pq_iload5 (pq_iload5 (pq_iload_n3 (pq_iadd ?_))))
        intro m6 em_19
        try have e6 : m6.toInt = (z5_3).toInt + (x3).toInt := by rw [em_19]; exact pm_add _ _ (by omega) (by omega)
        refine pq_iconst (pq_isub ?_)
        intro m7 em_21
        try have e7 : m7.toInt = (m6).toInt - (1) := by rw [em_21]; exact pm_subc _ _ (1) rfl (by omega) (by omega)
        refine pq_iv2_11 ?_
        refine And.intro (Exists.intro _ md_o) (Exists.intro _ (Exists.intro _ (Exists.intro _ (Exists.intro _ (And.intro (c_X11_setOf D v f hv hf z5_3 m7 (by omega) (by omega)) (And.intro rfl (fun r9 A9 h9 => ?_)))))))
        obtain ⟨y8, rfl, rfl, by8⟩ := h9
        refine pq_id1 ?_
        have hs9 : y8 = setF (f 0) z5_3.toInt.toNat x3.toInt.toNat := by8.trans (congrArg _ (by omega))
        refine pq_iload4 (pq_icmp_eq ?_)
        refine And.intro (fun c9 => ?_) (fun c9 => ?_)
        · skip
          have dc9 : (y8).toInt = (x4 : Int32).toInt := congrArg Int32.toInt c9
          refine hC.1 2 32 _ _ rfl _ _ _ _ _ ?_
          refine pq_iinc (fun zm_9 => [some (.ref h), some (.int x1), some (.int x2), some (.int x3), some (.int x4), some (.int zm_9)]) rfl (fun _ => rfl) ?_
          intro m10 em_32
          try have e10 : m10.toInt = (z5_3).toInt + (1) := by rw [em_32]; exact pm_addc _ _ (1) rfl (by omega) (by omega)
          refine pq_goto ?_
          exact ih2 m10 (by omega) (by omega)
        · skip
          have dc9 := pm_neI c9
          have k0 : (0 : Int32).toInt = 0 := rfl
          refine pq_iconst (pq_iret ?_)
          exact ⟨rfl, fun _ => (by decide), rfl, (0 : Int32), rfl, rfl, Or.inr ⟨rfl, by exact ⟨z5_3.toInt, by omega, by omega, fun e9 => absurd (hs9.trans e9) (by assumption)⟩⟩⟩
  exact lp1 (200 - x1.toInt).toNat.succ x1 (by omega) (by omega)

set_option maxRecDepth 100000 in
set_option maxHeartbeats 2000000 in
theorem c_X11_cover (D : md_D h q) (v : Nat → Int32) (f : Nat → Nat → Int32) (hv : md_V v) (hf : md_F f) (x1 : Int32) (x2 : Int32)  : pm_Mt l g 240 2 0 0 [.ref h, .int x1, .int x2] (md A0 g h q v f) (md_Qp (md A0 g h q v f) (fun r => True)) := by
  refine mt_X11_cover rfl (fun J hC => ?_)
  have hv9 := hv
  unfold md_V at hv9
  have rg_x1 := pm_rng x1
  have rg_x2 := pm_rng x2
  show J 0 [some (.ref h), some (.int x1), some (.int x2), none, none] [] (md A0 g h q v f) 0 0
  refine hC.1 0 0 _ _ rfl _ _ _ _ _ ?_
  refine pq_aload_n0 (pq_iload_n1 (pq_iload_n2 (pq_iv2_11 ?_)))
  refine And.intro (Exists.intro _ md_o) (Exists.intro _ (Exists.intro _ (Exists.intro _ (Exists.intro _ (And.intro (c_X11_isSpan D v f hv hf x1 x2 ) (And.intro rfl (fun r9 A9 h9 => ?_)))))))
  rcases h9 with ⟨y1, rfl, rfl, ⟨rfl, by1⟩ | ⟨rfl, by1⟩⟩
  · skip
    have k1 : (1 : Int32).toInt = 1 := rfl
    refine pq_id1 (pq_icond_ne ?_)
    refine And.intro (fun _ => ?_) (fun c9 => absurd c9 (by decide))
    refine hC.1 1 11 _ _ rfl _ _ _ _ _ ?_
    refine pq_aload_n0 (pq_iload_n1 (pq_iload_n2 (pq_iv2_11 ?_)))
    refine And.intro (Exists.intro _ md_o) (Exists.intro _ (Exists.intro _ (Exists.intro _ (Exists.intro _ (And.intro (c_X11_setOf D v f hv hf x1 x2 (by omega) (by omega)) (And.intro rfl (fun r9 A9 h9 => ?_)))))))
    obtain ⟨y2, rfl, rfl, by2⟩ := h9
    refine pq_id1 ?_
    have ha9 := by2
    refine pq_istore_n [some (.ref h), some (.int x1), some (.int x2), some (.int y2), none] rfl (pq_iconst (pq_istore [some (.ref h), some (.int x1), some (.int x2), some (.int y2), some (.int (1 : Int32))] rfl (pq_nil ?_)))
    have lp3 : ∀ (n : Nat) (z4_21 : Int32), (1 ≤ z4_21.toInt ∧ z4_21.toInt ≤ x2.toInt + 1 - x1.toInt) → 200 - z4_21.toInt < (n : Int) → J 21 [some (.ref h), some (.int x1), some (.int x2), some (.int y2), some (.int z4_21)] [] (md A0 g h q v f) 0 0 := by
      intro n
      induction n with
      | zero =>
        intro z4_21 j0_21 j1_21
        omega
      | succ n ih4 =>
        intro z4_21 j0_21 j1_21
        refine hC.1 2 21 _ _ rfl _ _ _ _ _ ?_
        refine pq_aload_n0 (pq_iload_n1 (pq_iload_n2 (pq_iload4 (pq_iload_n3 (pq_iv4_11 ?_)))))
        refine And.intro (Exists.intro _ md_o) (Exists.intro _ (Exists.intro _ (Exists.intro _ (Exists.intro _ (And.intro (c_X11_haveAll D v f hv hf x1 x2 z4_21 y2 (by omega) (by omega)) (And.intro rfl (fun r9 A9 h9 => ?_)))))))
        rcases h9 with ⟨y5, rfl, rfl, ⟨rfl, by5⟩ | ⟨rfl, by5⟩⟩
        · skip
          refine pq_id1 (pq_icond_ne ?_)
          refine And.intro (fun _ => ?_) (fun c9 => absurd c9 (by decide))
          refine hC.1 3 39 _ _ rfl _ _ _ _ _ ?_
          refine pq_iload4 (pq_iret ?_)
          exact ⟨rfl, fun e9 => absurd e9 (by decide), rfl, z4_21, rfl, rfl, by exact True.intro⟩
        · skip
          have k0 : (0 : Int32).toInt = 0 := rfl
          refine pq_id1 ?_
          obtain ⟨p9, h91, h92, h93⟩ := by5
          have hn9 : ¬ z4_21.toInt = x2.toInt + 1 - x1.toInt := fun e9 => h93 (by rw [show p9 = x1.toInt by omega, e9]; exact ha9.symm)
          refine pq_icond_ne ?_
          refine And.intro (fun c9 => absurd c9 (by decide)) (fun _ => ?_)
          refine pq_iinc (fun zm_9 => [some (.ref h), some (.int x1), some (.int x2), some (.int y2), some (.int zm_9)]) rfl (fun _ => rfl) ?_
          intro m6 em_33
          try have e6 : m6.toInt = (z4_21).toInt + (1) := by rw [em_33]; exact pm_addc _ _ (1) rfl (by omega) (by omega)
          refine pq_goto ?_
          exact ih4 m6 (by omega) (by omega)
    exact lp3 (200 - (1 : Int32).toInt).toNat.succ (1 : Int32) (by omega) (by omega)
  · skip
    have k0 : (0 : Int32).toInt = 0 := rfl
    refine pq_id1 (pq_icond_ne ?_)
    refine And.intro (fun c9 => absurd c9 (by decide)) (fun _ => ?_)
    have km1 : (-1 : Int32).toInt = -1 := rfl
    refine pq_iconst (pq_iret ?_)
    exact ⟨rfl, fun e9 => absurd e9 (by decide), rfl, (-1 : Int32), rfl, rfl, by exact True.intro⟩

set_option maxRecDepth 100000 in
set_option maxHeartbeats 2000000 in
theorem c_X11_fair (D : md_D h q) (v : Nat → Int32) (f : Nat → Nat → Int32) (hv : md_V v) (hf : md_F f) (x1 : Int32) (x2 : Int32) (x3 : Int32)  : pm_Mt l g 243 1 0 0 [.ref h, .int x1, .int x2, .int x3] (md A0 g h q v f) (md_Qp (md A0 g h q v f) (fun r => True)) := by
  refine mt_X11_fair rfl (fun J hC => ?_)
  have hv9 := hv
  unfold md_V at hv9
  have rg_x1 := pm_rng x1
  have rg_x2 := pm_rng x2
  have rg_x3 := pm_rng x3
  show J 0 [some (.ref h), some (.int x1), some (.int x2), some (.int x3), none, none] [] (md A0 g h q v f) 0 0
  refine hC.1 0 0 _ _ rfl _ _ _ _ _ ?_
  refine pq_aload_n0 (pq_iload_n1 (pq_iload_n2 (pq_iv2_11 ?_)))
  refine And.intro (Exists.intro _ md_o) (Exists.intro _ (Exists.intro _ (Exists.intro _ (Exists.intro _ (And.intro (c_X11_isSpan D v f hv hf x1 x2 ) (And.intro rfl (fun r9 A9 h9 => ?_)))))))
  rcases h9 with ⟨y1, rfl, rfl, ⟨rfl, by1⟩ | ⟨rfl, by1⟩⟩
  · skip
    have k1 : (1 : Int32).toInt = 1 := rfl
    refine pq_id1 (pq_icond_eq ?_)
    refine And.intro (fun c9 => absurd c9 (by decide)) (fun _ => ?_)
    refine pq_iload_n3 (pq_iconst (pq_icmp_ge ?_))
    refine And.intro (fun c2 => ?_) (fun c2 => ?_)
    · skip
      refine hC.1 2 16 _ _ rfl _ _ _ _ _ ?_
      have k0 : (0 : Int32).toInt = 0 := rfl
      refine pq_iconst (pq_istore [some (.ref h), some (.int x1), some (.int x2), some (.int x3), some (.int (0 : Int32)), none] rfl (pq_iconst (pq_istore [some (.ref h), some (.int x1), some (.int x2), some (.int x3), some (.int (0 : Int32)), some (.int (0 : Int32))] rfl (pq_nil ?_))))
      have lp3 : ∀ (n : Nat) (z4_22 : Int32) (z5_22 : Int32), (0 ≤ z5_22.toInt ∧ z5_22.toInt ≤ 24) → 200 - z5_22.toInt < (n : Int) → J 22 [some (.ref h), some (.int x1), some (.int x2), some (.int x3), some (.int z4_22), some (.int z5_22)] [] (md A0 g h q v f) 0 0 := by
        intro n
        induction n with
        | zero =>
          intro z4_22 z5_22 j0_22 j1_22
          omega
        | succ n ih4 =>
          intro z4_22 z5_22 j0_22 j1_22
          refine hC.1 3 22 _ _ rfl _ _ _ _ _ ?_
          refine pq_iload5 ?_
          have k24 : (24 : Int32).toInt = 24 := rfl
          refine pq_bipush (pq_icmp_ge ?_)
          refine And.intro (fun c5 => ?_) (fun c5 => ?_)
          · skip
            refine hC.1 6 70 _ _ rfl _ _ _ _ _ ?_
            refine pq_iload4 (pq_iret ?_)
            exact ⟨rfl, fun e9 => absurd e9 (by decide), rfl, z4_22, rfl, rfl, by exact True.intro⟩
          · skip
            refine pq_iload4 (pq_aload_n0 (pq_iload_n1 (pq_iload_n2 (pq_iload5 (pq_iv3_11 ?_)))))
            refine And.intro (Exists.intro _ md_o) (Exists.intro _ (Exists.intro _ (Exists.intro _ (Exists.intro _ (And.intro (c_X11_timesIn D v f hv hf x1 x2 z5_22 (by omega) (by omega)) (And.intro rfl (fun r9 A9 h9 => ?_)))))))
            obtain ⟨y6, rfl, rfl, by6⟩ := h9
            refine pq_id1 (pq_i2l (pq_iload_n3 (pq_i2l (pq_lmul (pq_iload_n2 (pq_iload_n1 (pq_isub ?_)))))))
            intro m7 em_45
            try have e7 : m7.toInt = (x2).toInt - (x1).toInt := by rw [em_45]; exact pm_sub _ _ (by omega) (by omega)
            refine pq_iconst (pq_iadd ?_)
            intro m8 em_47
            try have e8 : m8.toInt = (m7).toInt + (1) := by rw [em_47]; exact pm_addc _ _ (1) rfl (by omega) (by omega)
            refine pq_i2l (pq_lcmp (pq_icond_le ?_))
            refine And.intro (fun c9 => ?_) (fun c9 => ?_)
            · skip
              refine hC.1 4 60 _ _ rfl _ _ _ _ _ ?_
              refine pq_iconst (pq_nil ?_)
              refine hC.1 5 61 _ _ rfl _ _ _ _ _ ?_
              refine pq_ior (pq_istore [some (.ref h), some (.int x1), some (.int x2), some (.int x3), some (.int (z4_22 ||| (0 : Int32))), some (.int z5_22)] rfl (pq_iinc (fun zm_9 => [some (.ref h), some (.int x1), some (.int x2), some (.int x3), some (.int (z4_22 ||| (0 : Int32))), some (.int zm_9)]) rfl (fun _ => rfl) ?_))
              intro m10 em_64
              try have e10 : m10.toInt = (z5_22).toInt + (1) := by rw [em_64]; exact pm_addc _ _ (1) rfl (by omega) (by omega)
              refine pq_goto ?_
              exact ih4 (z4_22 ||| (0 : Int32)) m10 (by omega) (by omega)
            · skip
              refine pq_iconst (pq_iload5 (pq_ishl (pq_goto ?_)))
              refine hC.1 5 61 _ _ rfl _ _ _ _ _ ?_
              refine pq_ior (pq_istore [some (.ref h), some (.int x1), some (.int x2), some (.int x3), some (.int (z4_22 ||| ((1 : Int32) <<< (z5_22 &&& 31)))), some (.int z5_22)] rfl (pq_iinc (fun zm_9 => [some (.ref h), some (.int x1), some (.int x2), some (.int x3), some (.int (z4_22 ||| ((1 : Int32) <<< (z5_22 &&& 31)))), some (.int zm_9)]) rfl (fun _ => rfl) ?_))
              intro m11 em_64
              try have e11 : m11.toInt = (z5_22).toInt + (1) := by rw [em_64]; exact pm_addc _ _ (1) rfl (by omega) (by omega)
              refine pq_goto ?_
              exact ih4 (z4_22 ||| ((1 : Int32) <<< (z5_22 &&& 31))) m11 (by omega) (by omega)
      exact lp3 (200 - (0 : Int32).toInt).toNat.succ (0 : Int32) (0 : Int32) (by omega) (by omega)
    · skip
      refine pq_nil ?_
      refine hC.1 1 14 _ _ rfl _ _ _ _ _ ?_
      have km1 : (-1 : Int32).toInt = -1 := rfl
      refine pq_iconst (pq_iret ?_)
      exact ⟨rfl, fun e9 => absurd e9 (by decide), rfl, (-1 : Int32), rfl, rfl, by exact True.intro⟩
  · skip
    have k0 : (0 : Int32).toInt = 0 := rfl
    refine pq_id1 (pq_icond_eq ?_)
    refine And.intro (fun _ => ?_) (fun c9 => absurd c9 (by decide))
    refine hC.1 1 14 _ _ rfl _ _ _ _ _ ?_
    have km1 : (-1 : Int32).toInt = -1 := rfl
    refine pq_iconst (pq_iret ?_)
    exact ⟨rfl, fun e9 => absurd e9 (by decide), rfl, (-1 : Int32), rfl, rfl, by exact True.intro⟩

set_option maxRecDepth 100000 in
set_option maxHeartbeats 2000000 in
theorem c_X11_alike (D : md_D h q) (v : Nat → Int32) (f : Nat → Nat → Int32) (hv : md_V v) (hf : md_F f) (x1 : Int32) (x2 : Int32)  : pm_Mt l g 244 1 0 0 [.ref h, .int x1, .int x2] (md A0 g h q v f) (md_Qp (md A0 g h q v f) (fun r => True)) := by
  refine mt_X11_alike rfl (fun J hC => ?_)
  have hv9 := hv
  unfold md_V at hv9
  have rg_x1 := pm_rng x1
  have rg_x2 := pm_rng x2
  show J 0 [some (.ref h), some (.int x1), some (.int x2), none, none] [] (md A0 g h q v f) 0 0
  refine hC.1 0 0 _ _ rfl _ _ _ _ _ ?_
  refine pq_aload_n0 (pq_iload_n1 (pq_iload_n2 (pq_iv2_11 ?_)))
  refine And.intro (Exists.intro _ md_o) (Exists.intro _ (Exists.intro _ (Exists.intro _ (Exists.intro _ (And.intro (c_X11_isSpan D v f hv hf x1 x2 ) (And.intro rfl (fun r9 A9 h9 => ?_)))))))
  rcases h9 with ⟨y1, rfl, rfl, ⟨rfl, by1⟩ | ⟨rfl, by1⟩⟩
  · skip
    have k1 : (1 : Int32).toInt = 1 := rfl
    refine pq_id1 (pq_icond_ne ?_)
    refine And.intro (fun _ => ?_) (fun c9 => absurd c9 (by decide))
    refine hC.1 1 11 _ _ rfl _ _ _ _ _ ?_
    have k0 : (0 : Int32).toInt = 0 := rfl
    refine pq_iconst (pq_istore_n [some (.ref h), some (.int x1), some (.int x2), some (.int (0 : Int32)), none] rfl (pq_iload_n1 (pq_istore [some (.ref h), some (.int x1), some (.int x2), some (.int (0 : Int32)), some (.int x1)] rfl (pq_nil ?_))))
    have lp2 : ∀ (n : Nat) (z3_16 : Int32) (z4_16 : Int32), (x1.toInt ≤ z4_16.toInt ∧ z4_16.toInt ≤ x2.toInt + 1) → 200 - z4_16.toInt < (n : Int) → J 16 [some (.ref h), some (.int x1), some (.int x2), some (.int z3_16), some (.int z4_16)] [] (md A0 g h q v f) 0 0 := by
      intro n
      induction n with
      | zero =>
        intro z3_16 z4_16 j0_16 j1_16
        omega
      | succ n ih3 =>
        intro z3_16 z4_16 j0_16 j1_16
        refine hC.1 2 16 _ _ rfl _ _ _ _ _ ?_
        refine pq_iload4 (pq_iload_n2 (pq_icmp_gt ?_))
        refine And.intro (fun c4 => ?_) (fun c4 => ?_)
        · skip
          refine hC.1 3 47 _ _ rfl _ _ _ _ _ ?_
          refine pq_iload_n3 (pq_iret ?_)
          exact ⟨rfl, fun e9 => absurd e9 (by decide), rfl, z3_16, rfl, rfl, by exact True.intro⟩
        · skip
          refine pq_iload_n3 (pq_aload_n0 (pq_iload_n1 (pq_iload4 (pq_iconst (pq_isub ?_)))))
          intro m5 em_28
          try have e5 : m5.toInt = (z4_16).toInt - (1) := by rw [em_28]; exact pm_subc _ _ (1) rfl (by omega) (by omega)
          refine pq_aload_n0 (qgm_colours (pq_iload4 (qlm_colours D (by omega) ?_)))
          have w6 : (0 : Int) ≤ (f 0 (z4_16).toInt.toNat).toInt ∧ (f 0 (z4_16).toInt.toNat).toInt ≤ (23 : Int) := hf 0 _
          refine pq_iv3_11 ?_
          refine And.intro (Exists.intro _ md_o) (Exists.intro _ (Exists.intro _ (Exists.intro _ (Exists.intro _ (And.intro (c_X11_timesIn D v f hv hf x1 m5 (f 0 (z4_16).toInt.toNat) (by omega) (by omega)) (And.intro rfl (fun r9 A9 h9 => ?_)))))))
          obtain ⟨y7, rfl, rfl, by7⟩ := h9
          refine pq_id1 (pq_iadd ?_)
          intro m8 em_39
          try have e8 : m8.toInt = (z3_16).toInt + (y7).toInt := by rw [em_39]; exact pm_add _ _ (by omega) (by omega)
          refine pq_istore_n [some (.ref h), some (.int x1), some (.int x2), some (.int m8), some (.int z4_16)] rfl (pq_iinc (fun zm_9 => [some (.ref h), some (.int x1), some (.int x2), some (.int m8), some (.int zm_9)]) rfl (fun _ => rfl) ?_)
          intro m9 em_41
          try have e9 : m9.toInt = (z4_16).toInt + (1) := by rw [em_41]; exact pm_addc _ _ (1) rfl (by omega) (by omega)
          refine pq_goto ?_
          exact ih3 m8 m9 (by omega) (by omega)
    exact lp2 (200 - x1.toInt).toNat.succ (0 : Int32) x1 (by omega) (by omega)
  · skip
    have k0 : (0 : Int32).toInt = 0 := rfl
    refine pq_id1 (pq_icond_ne ?_)
    refine And.intro (fun c9 => absurd c9 (by decide)) (fun _ => ?_)
    have km1 : (-1 : Int32).toInt = -1 := rfl
    refine pq_iconst (pq_iret ?_)
    exact ⟨rfl, fun e9 => absurd e9 (by decide), rfl, (-1 : Int32), rfl, rfl, by exact True.intro⟩

end
end
