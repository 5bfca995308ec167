section
variable {l : Launch} {g : pm_G} {A0 : pm_H} {K nn dn : Nat} {q : Nat → Nat} {w : Nat → Int32} {e : Nat → Nat → Int32} {v : Nat → Int32} {f : Nat → Nat → Int32}
set_option maxRecDepth 100000 in
set_option maxHeartbeats 2000000 in
theorem F_X7_placeOfNth (hI : cw_I K nn dn q w e) (hs : cw_S v f) {o0 : Nat} (ho0 : cw_ro K o0) (x1 : Int32) (x2 : Int32)  : pm_Mt l g 49 0 0 0 [.ref (q o0), .int x1, .int x2] (cw A0 g K nn dn q w e v f) (md_Qp (cw A0 g K nn dn q w e v f) (fun r => NTH (e (o0 + 1)) (w o0).toInt x1 x2.toInt r.toInt)) := by
  refine mt_X7_placeOfNth rfl (fun J hC => ?_)
  have ro_nn : cw_ro K nn := hI.2.1.2.1
  have ro_dn : cw_ro K dn := hI.2.1.2.2.1
  have hu1 := hI.2.1
  unfold cw_W at hu1
  have rg_x1 := pm_rng x1
  have rg_x2 := pm_rng x2
  have zz0 := cw_sz hI ho0
  refine hC.1 0 0 _ _ rfl _ _ _ _ _ ?_
  have k0 : (0 : Int32).toInt = 0 := rfl
  have lp3 : ∀ (n : Nat) (z3_5 : Int32) (z4_5 : Int32), (0 ≤ z4_5.toInt ∧ z4_5.toInt ≤ (w o0).toInt) → (z3_5.toInt = (cn (e (o0 + 1)) x1 z4_5.toInt.toNat : Int)) → (∀ i9 : Nat, (i9 : Int) < z4_5.toInt → ¬ (e (o0 + 1) i9 = x1 ∧ (cn (e (o0 + 1)) x1 i9 : Int) = x2.toInt)) → 200 - z4_5.toInt < (n : Int) → J 5 [some (.ref (q o0)), some (.int x1), some (.int x2), some (.int z3_5), some (.int z4_5)] [] (cw A0 g K nn dn q w e v f) 0 0 := by
    intro n
    induction n with
    | zero =>
      intro z3_5 z4_5 j0_5 j1_5 j2_5 j3_5
      omega
    | succ n ih4 =>
      intro z3_5 z4_5 j0_5 j1_5 j2_5 j3_5
      have cl9 := cn_le (e (o0 + 1)) x1 z4_5.toInt.toNat
      refine hC.1 1 5 _ _ rfl _ _ _ _ _ ?_
      refine Exists.intro _ (And.intro (cw_ro_o hI.1 ho0) ?_)
      have z5 := cw_sz hI ho0
      refine And.intro (fun c6 => ?_) (fun c6 => ?_)
      · skip
        refine hC.1 4 42 _ _ rfl _ _ _ _ _ ?_
        have km1 : (-1 : Int32).toInt = -1 := rfl
        exact ⟨rfl, fun e9 => absurd e9 (by decide), rfl, (-1 : Int32), rfl, rfl, by first | (exact Or.inr ⟨by omega, by omega, by assumption, by omega⟩) | (exact Or.inl ⟨rfl, fun i9 h9 => j2_5 i9 (by omega)⟩)⟩
      · skip
        refine Exists.intro _ (And.intro (cw_ro_o hI.1 ho0) ?_)
        refine Exists.intro _ (Exists.intro _ (And.intro (Or.inl (cw_ro_1 hI.1 ho0)) (And.intro (by omega) ?_)))
        have w7 := cw_col hI ho0 (z4_5).toInt.toNat
        refine And.intro (fun c8 => ?_) (fun c8 => ?_)
        · skip
          have dc8 := pm_neI c8
          refine hC.1 3 36 _ _ rfl _ _ _ _ _ ?_
          have k1 : (1 : Int32).toInt = 1 := rfl
          intro m9 em_36
          try have e9 : m9.toInt = (z4_5).toInt + (1) := by rw [em_36]; exact pm_addc _ _ (1) rfl (by omega) (by omega)
          exact ih4 z3_5 m9 (by omega) (by first | (rw [show m9.toInt.toNat = z4_5.toInt.toNat + 1 by omega, cn_n (by assumption)]; omega) | (rw [show m9.toInt.toNat = z4_5.toInt.toNat + 1 by omega, cn_y (by assumption)]; omega)) (by intro i9 h9; by_cases h8 : i9 = z4_5.toInt.toNat; (subst h8; intro h7; first | exact absurd h7.1 (by assumption) | omega); (exact j2_5 i9 (by omega))) (by omega)
        · skip
          have dc8 : ((e (o0 + 1) (z4_5).toInt.toNat)).toInt = (x1 : Int32).toInt := congrArg Int32.toInt c8
          refine And.intro (fun c10 => ?_) (fun c10 => ?_)
          · skip
            have dc10 := pm_neI c10
            refine hC.1 2 33 _ _ rfl _ _ _ _ _ ?_
            have k1 : (1 : Int32).toInt = 1 := rfl
            intro m11 em_33
            try have e11 : m11.toInt = (z3_5).toInt + (1) := by rw [em_33]; exact pm_addc _ _ (1) rfl (by omega) (by omega)
            refine hC.1 3 36 _ _ rfl _ _ _ _ _ ?_
            intro m12 em_36
            try have e12 : m12.toInt = (z4_5).toInt + (1) := by rw [em_36]; exact pm_addc _ _ (1) rfl (by omega) (by omega)
            exact ih4 m11 m12 (by omega) (by first | (rw [show m12.toInt.toNat = z4_5.toInt.toNat + 1 by omega, cn_n (by assumption)]; omega) | (rw [show m12.toInt.toNat = z4_5.toInt.toNat + 1 by omega, cn_y (by assumption)]; omega)) (by intro i9 h9; by_cases h8 : i9 = z4_5.toInt.toNat; (subst h8; intro h7; first | exact absurd h7.1 (by assumption) | omega); (exact j2_5 i9 (by omega))) (by omega)
          · skip
            have dc10 : (z3_5).toInt = (x2 : Int32).toInt := congrArg Int32.toInt c10
            exact ⟨rfl, fun e9 => absurd e9 (by decide), rfl, z4_5, rfl, rfl, by first | (exact Or.inr ⟨by omega, by omega, by assumption, by omega⟩) | (exact Or.inl ⟨rfl, fun i9 h9 => j2_5 i9 (by omega)⟩)⟩
  exact lp3 (200 - (0 : Int32).toInt).toNat.succ (0 : Int32) (0 : Int32) (by omega) (by rfl) (by intro i9 h9; omega) (by omega)

set_option maxRecDepth 100000 in
set_option maxHeartbeats 2000000 in
theorem F_X10_nth (hI : cw_I K nn dn q w e) (hs : cw_S v f) (x1 : Int32) (x2 : Int32)  : pm_Mt l g 52 1 0 0 [.ref (q 0), .int x1, .int x2] (cw A0 g K nn dn q w e v f) (md_Qp (cw A0 g K nn dn q w e v f) (fun r => NTH (e (nn + 1)) (w nn).toInt x1 x2.toInt r.toInt)) := by
  refine mt_X10_nth rfl (fun J hC => ?_)
  have ro_nn : cw_ro K nn := hI.2.1.2.1
  have ro_dn : cw_ro K dn := hI.2.1.2.2.1
  have hu1 := hI.2.1
  unfold cw_W at hu1
  have rg_x1 := pm_rng x1
  have rg_x2 := pm_rng x2
  refine hC.1 0 0 _ _ rfl _ _ _ _ _ ?_
  refine Exists.intro _ (And.intro (cw_o0 hI.1) ?_)
  refine Exists.intro _ (And.intro (cw_o1 hI.1) ?_)
  refine And.intro (Exists.intro _ (cw_ro_o hI.1 ro_nn)) (Exists.intro _ (Exists.intro _ (Exists.intro _ (Exists.intro _ (And.intro (F_X7_placeOfNth hI hs ro_nn x1 x2 ) (And.intro rfl (fun r9 A9 h9 => ?_)))))))
  obtain ⟨y2, rfl, rfl, by2⟩ := h9
  exact ⟨rfl, fun e9 => absurd e9 (by decide), rfl, y2, rfl, rfl, by assumption⟩

set_option maxRecDepth 100000 in
set_option maxHeartbeats 2000000 in
theorem F_X7_placeOf (hI : cw_I K nn dn q w e) (hs : cw_S v f) {o0 : Nat} (ho0 : cw_ro K o0) (x1 : Int32)  : pm_Mt l g 46 0 0 0 [.ref (q o0), .int x1] (cw A0 g K nn dn q w e v f) (md_Qp (cw A0 g K nn dn q w e v f) (fun r => (-1 ≤ r.toInt ∧ r.toInt < (w o0).toInt) ∧ FST (e (o0 + 2)) (w o0).toInt x1 r.toInt)) := by
  refine mt_X7_placeOf rfl (fun J hC => ?_)
  have ro_nn : cw_ro K nn := hI.2.1.2.1
  have ro_dn : cw_ro K dn := hI.2.1.2.2.1
  have hu1 := hI.2.1
  unfold cw_W at hu1
  have rg_x1 := pm_rng x1
  have zz0 := cw_sz hI ho0
  refine hC.1 0 0 _ _ rfl _ _ _ _ _ ?_
  have k0 : (0 : Int32).toInt = 0 := rfl
  have lp3 : ∀ (n : Nat) (z2_2 : Int32), (0 ≤ z2_2.toInt ∧ z2_2.toInt ≤ (w o0).toInt) → (∀ i9 : Nat, (i9 : Int) < z2_2.toInt → ¬ e (o0 + 2) i9 = x1) → 200 - z2_2.toInt < (n : Int) → J 2 [some (.ref (q o0)), some (.int x1), some (.int z2_2)] [] (cw A0 g K nn dn q w e v f) 0 0 := by
    intro n
    induction n with
    | zero =>
      intro z2_2 j0_2 j1_2 j2_2
      omega
    | succ n ih4 =>
      intro z2_2 j0_2 j1_2 j2_2
      refine hC.1 1 2 _ _ rfl _ _ _ _ _ ?_
      refine Exists.intro _ (And.intro (cw_ro_o hI.1 ho0) ?_)
      have z5 := cw_sz hI ho0
      refine And.intro (fun c6 => ?_) (fun c6 => ?_)
      · skip
        refine hC.1 3 28 _ _ rfl _ _ _ _ _ ?_
        have km1 : (-1 : Int32).toInt = -1 := rfl
        exact ⟨rfl, fun e9 => absurd e9 (by decide), rfl, (-1 : Int32), rfl, rfl, by first | (exact ⟨by omega, Or.inr ⟨by omega, by omega, by assumption, fun i9 h9 => j1_2 i9 (by omega)⟩⟩) | (exact ⟨by omega, Or.inl ⟨rfl, fun i9 h9 => j1_2 i9 (by omega)⟩⟩)⟩
      · skip
        refine Exists.intro _ (And.intro (cw_ro_o hI.1 ho0) ?_)
        refine Exists.intro _ (Exists.intro _ (And.intro (Or.inl (cw_ro_2 hI.1 ho0)) (And.intro (by omega) ?_)))
        refine And.intro (fun c7 => ?_) (fun c7 => ?_)
        · skip
          have dc7 := pm_neI c7
          refine hC.1 2 22 _ _ rfl _ _ _ _ _ ?_
          have k1 : (1 : Int32).toInt = 1 := rfl
          intro m8 em_22
          try have e8 : m8.toInt = (z2_2).toInt + (1) := by rw [em_22]; exact pm_addc _ _ (1) rfl (by omega) (by omega)
          exact ih4 m8 (by omega) (by intro i9 h9; by_cases h8 : i9 = z2_2.toInt.toNat; (subst h8; assumption); (exact j1_2 i9 (by omega))) (by omega)
        · skip
          have dc7 : ((e (o0 + 2) (z2_2).toInt.toNat)).toInt = (x1 : Int32).toInt := congrArg Int32.toInt c7
          exact ⟨rfl, fun e9 => absurd e9 (by decide), rfl, z2_2, rfl, rfl, by first | (exact ⟨by omega, Or.inr ⟨by omega, by omega, by assumption, fun i9 h9 => j1_2 i9 (by omega)⟩⟩) | (exact ⟨by omega, Or.inl ⟨rfl, fun i9 h9 => j1_2 i9 (by omega)⟩⟩)⟩
  exact lp3 (200 - (0 : Int32).toInt).toNat.succ (0 : Int32) (by omega) (by intro i9 h9; omega) (by omega)

set_option maxRecDepth 100000 in
set_option maxHeartbeats 2000000 in
theorem F_X10_place (hI : cw_I K nn dn q w e) (hs : cw_S v f) (x1 : Int32)  : pm_Mt l g 45 1 0 0 [.ref (q 0), .int x1] (cw A0 g K nn dn q w e v f) (md_Qp (cw A0 g K nn dn q w e v f) (fun r => (-1 ≤ r.toInt ∧ r.toInt < (w nn).toInt) ∧ FST (e (nn + 2)) (w nn).toInt x1 r.toInt)) := by
  refine mt_X10_place rfl (fun J hC => ?_)
  have ro_nn : cw_ro K nn := hI.2.1.2.1
  have ro_dn : cw_ro K dn := hI.2.1.2.2.1
  have hu1 := hI.2.1
  unfold cw_W at hu1
  have rg_x1 := pm_rng x1
  refine hC.1 0 0 _ _ rfl _ _ _ _ _ ?_
  refine Exists.intro _ (And.intro (cw_o0 hI.1) ?_)
  refine Exists.intro _ (And.intro (cw_o1 hI.1) ?_)
  refine And.intro (Exists.intro _ (cw_ro_o hI.1 ro_nn)) (Exists.intro _ (Exists.intro _ (Exists.intro _ (Exists.intro _ (And.intro (F_X7_placeOf hI hs ro_nn x1 ) (And.intro rfl (fun r9 A9 h9 => ?_)))))))
  obtain ⟨y2, rfl, rfl, by2⟩ := h9
  exact ⟨rfl, fun e9 => absurd e9 (by decide), rfl, y2, rfl, rfl, by assumption⟩

set_option maxRecDepth 100000 in
set_option maxHeartbeats 2000000 in
theorem F_X5_add (hI : cw_I K nn dn q w e) (hs : cw_S v f) (x1 : Int32) (x2 : Int32) (x3 : Int32)  : pm_Mt l g 159 0 0 0 [.ref (q 9), .int x1, .int x2, .int x3] (cw A0 g K nn dn q w e v f) (cw_Qt A0 g K nn dn q (fun r w2 e2 => e2 15 = e 15 ∧ (∃ x : Int32, r = some (.int x) ∧ (((w2 0).toInt = (w 0).toInt ∧ (w2 1).toInt = (w 1).toInt) ∧ ((∀ i9, 40 ≤ i9 → w2 i9 = w i9 ∧ e2 i9 = e i9)))))) := by
  refine mt_X5_add rfl (fun J hC => ?_)
  have ro_nn : cw_ro K nn := hI.2.1.2.1
  have ro_dn : cw_ro K dn := hI.2.1.2.2.1
  have hu1 := hI.2.1
  unfold cw_W at hu1
  have rg_x1 := pm_rng x1
  have rg_x2 := pm_rng x2
  have rg_x3 := pm_rng x3
  refine hC.1 0 0 _ _ rfl _ _ _ _ _ ?_
  refine Exists.intro _ (And.intro (cw_o9 hI.1) ?_)
  refine And.intro (fun c2 => ?_) (fun c2 => ?_)
  · skip
    refine hC.1 1 16 _ _ rfl _ _ _ _ _ ?_
    have km1 : (-1 : Int32).toInt = -1 := rfl
    exact ⟨rfl, fun e9 => absurd e9 (by decide), rfl, w, e, v, f, rfl, hI, hs, rfl, (-1 : Int32), rfl, by first | trivial | omega | (dsimp only; omega), by exact fun _ _ => ⟨rfl, rfl⟩⟩
  · skip
    refine Exists.intro _ (And.intro (cw_o9 hI.1) ?_)
    have k30 : (30 : Int32).toInt = 30 := rfl
    refine And.intro (fun c3 => ?_) (fun c3 => ?_)
    · skip
      refine hC.1 2 18 _ _ rfl _ _ _ _ _ ?_
      refine Exists.intro _ (And.intro (cw_o9 hI.1) ?_)
      refine Exists.intro _ (And.intro (cw_o9 hI.1) ?_)
      refine Exists.intro _ (Exists.intro _ (And.intro (cw_a35 hI.1) (And.intro (by omega) ?_)))
      rw [cw_s35 hI.1]
      obtain ⟨e4, ee4⟩ : ∃ z9, z9 = va_up e 35 (upd (e 35) ((w 3)).toInt.toNat x2) := ⟨_, rfl⟩
      rw [← ee4]
      have hI4 : cw_I K nn dn q w e4 := ⟨hI.1, hI.2.1, hI.2.2.1, by rw [ee4]; exact cw_E_up hI.2.2.2 _ _ (fun h9 _ => absurd h9 (by decide)) (fun h9 _ => absurd h9 (by decide))⟩
      have hx4 : e4 15 = e 15 := (show e4 15 = e 15 by rw [ee4]; exact if_neg (by omega)).trans rfl
      have pe_31 := ee4
      refine Exists.intro _ (And.intro (cw_o9 hI4.1) ?_)
      refine Exists.intro _ (Exists.intro _ (And.intro (cw_a36 hI4.1) (And.intro (by omega) ?_)))
      rw [cw_s36 hI4.1]
      obtain ⟨e5, ee5⟩ : ∃ z9, z9 = va_up e4 36 (upd (e4 36) ((w 3)).toInt.toNat x3) := ⟨_, rfl⟩
      rw [← ee5]
      have hI5 : cw_I K nn dn q w e5 := ⟨hI4.1, hI4.2.1, hI4.2.2.1, by rw [ee5]; exact cw_E_up hI4.2.2.2 _ _ (fun h9 _ => absurd h9 (by decide)) (fun h9 _ => absurd h9 (by decide))⟩
      have hx5 : e5 15 = e 15 := (show e5 15 = e4 15 by rw [ee5]; exact if_neg (by omega)).trans hx4
      have pe_39 := ee5
      refine Exists.intro _ (And.intro (cw_o9 hI5.1) ?_)
      refine Exists.intro _ (Exists.intro _ (And.intro (cw_a39 hI5.1) (And.intro (by omega) ?_)))
      rw [cw_s39 hI5.1]
      obtain ⟨e6, ee6⟩ : ∃ z9, z9 = va_up e5 39 (upd (e5 39) ((w 3)).toInt.toNat x1) := ⟨_, rfl⟩
      rw [← ee6]
      have hI6 : cw_I K nn dn q w e6 := ⟨hI5.1, hI5.2.1, hI5.2.2.1, by rw [ee6]; exact cw_E_up hI5.2.2.2 _ _ (fun h9 _ => absurd h9 (by decide)) (fun h9 _ => absurd h9 (by decide))⟩
      have hx6 : e6 15 = e 15 := (show e6 15 = e5 15 by rw [ee6]; exact if_neg (by omega)).trans hx5
      have pe_47 := ee6
      refine Exists.intro _ (And.intro (cw_o9 hI6.1) ?_)
      have km1 : (-1 : Int32).toInt = -1 := rfl
      refine Exists.intro _ (Exists.intro _ (And.intro (cw_a37 hI6.1) (And.intro (by omega) ?_)))
      rw [cw_s37 hI6.1]
      obtain ⟨e7, ee7⟩ : ∃ z9, z9 = va_up e6 37 (upd (e6 37) ((w 3)).toInt.toNat (-1 : Int32)) := ⟨_, rfl⟩
      rw [← ee7]
      have hI7 : cw_I K nn dn q w e7 := ⟨hI6.1, hI6.2.1, hI6.2.2.1, by rw [ee7]; exact cw_E_up hI6.2.2.2 _ _ (fun h9 _ => absurd h9 (by decide)) (fun h9 _ => absurd h9 (by decide))⟩
      have hx7 : e7 15 = e 15 := (show e7 15 = e6 15 by rw [ee7]; exact if_neg (by omega)).trans hx6
      have pe_55 := ee7
      refine Exists.intro _ (And.intro (cw_o9 hI7.1) ?_)
      refine Exists.intro _ (Exists.intro _ (And.intro (cw_a38 hI7.1) (And.intro (by omega) ?_)))
      rw [cw_s38 hI7.1]
      obtain ⟨e8, ee8⟩ : ∃ z9, z9 = va_up e7 38 (upd (e7 38) ((w 3)).toInt.toNat (-1 : Int32)) := ⟨_, rfl⟩
      rw [← ee8]
      have hI8 : cw_I K nn dn q w e8 := ⟨hI7.1, hI7.2.1, hI7.2.2.1, by rw [ee8]; exact cw_E_up hI7.2.2.2 _ _ (fun h9 _ => absurd h9 (by decide)) (fun h9 _ => absurd h9 (by decide))⟩
      have hx8 : e8 15 = e 15 := (show e8 15 = e7 15 by rw [ee8]; exact if_neg (by omega)).trans hx7
      have pe_63 := ee8
      refine Exists.intro _ (And.intro (cw_o9 hI8.1) ?_)
      have k1 : (1 : Int32).toInt = 1 := rfl
      intro m9 em_70
      try have e9 : m9.toInt = ((w 3)).toInt + (1) := by rw [em_70]; exact pm_addc _ _ (1) rfl (by omega) (by omega)
      refine Exists.intro _ (And.intro (cw_o9 hI8.1) (And.intro rfl ?_))
      rw [cw_p_number hI8.1]
      obtain ⟨w10, ew10⟩ : ∃ z9, z9 = upd w 3 m9 := ⟨_, rfl⟩
      rw [← ew10]
      have ew10_0 : (w10 0).toInt = (w 0).toInt := by rw [ew10]; rfl
      have ew10_1 : (w10 1).toInt = (w 1).toInt := by rw [ew10]; rfl
      have ew10_2 : (w10 2).toInt = (w 2).toInt := by rw [ew10]; rfl
      have ew10_3 : (w10 3).toInt = (m9).toInt := by rw [ew10]; rfl
      have pn_71 : w10 3 = m9 := by rw [ew10, pk_us]
      have pw_71 := ew10
      have hZ10 : cw_Z w10 := by rw [ew10]; exact cw_Z_up hI8.2.2.1 _ _ (by omega)
      have hI10 : cw_I K nn dn q w10 e8 := ⟨hI8.1, by unfold cw_W; omega, hZ10, hI8.2.2.2⟩
      exact ⟨rfl, fun e9 => absurd e9 (by decide), rfl, w10, e8, v, f, rfl, hI10, hs, hx8, (w 3), rfl, by first | trivial | omega | (dsimp only; omega), by exact fun i9 h9 => ⟨by rw [pw_71, pk_un (by omega)], by rw [pe_63, va_un (by omega), pe_55, va_un (by omega), pe_47, va_un (by omega), pe_39, va_un (by omega), pe_31, va_un (by omega)]⟩⟩
    · skip
      refine hC.1 1 16 _ _ rfl _ _ _ _ _ ?_
      have km1 : (-1 : Int32).toInt = -1 := rfl
      exact ⟨rfl, fun e9 => absurd e9 (by decide), rfl, w, e, v, f, rfl, hI, hs, rfl, (-1 : Int32), rfl, by first | trivial | omega | (dsimp only; omega), by exact fun _ _ => ⟨rfl, rfl⟩⟩

set_option maxRecDepth 100000 in
set_option maxHeartbeats 2000000 in
theorem F_X10_ask (hI : cw_I K nn dn q w e) (hs : cw_S v f) (x1 : Int32) (x2 : Int32)  : pm_Mt l g 158 2 0 0 [.ref (q 0), .int x1, .int x2] (cw A0 g K nn dn q w e v f) (cw_Qt A0 g K nn dn q (fun r w2 e2 => e2 15 = e 15 ∧ (∃ x : Int32, r = some (.int x) ∧ (((w2 0).toInt = (w 0).toInt ∧ (w2 1).toInt = (w 1).toInt) ∧ ((∀ i9, 40 ≤ i9 → w2 i9 = w i9 ∧ e2 i9 = e i9)))))) := by
  refine mt_X10_ask rfl (fun J hC => ?_)
  have ro_nn : cw_ro K nn := hI.2.1.2.1
  have ro_dn : cw_ro K dn := hI.2.1.2.2.1
  have hu1 := hI.2.1
  unfold cw_W at hu1
  have rg_x1 := pm_rng x1
  have rg_x2 := pm_rng x2
  refine hC.1 0 0 _ _ rfl _ _ _ _ _ ?_
  refine Exists.intro _ (And.intro (cw_o0 hI.1) ?_)
  refine Exists.intro _ (And.intro (cw_o1 hI.1) ?_)
  refine And.intro (Exists.intro _ (cw_ro_o hI.1 ro_nn)) (Exists.intro _ (Exists.intro _ (Exists.intro _ (Exists.intro _ (And.intro (c_X7_hasName hI hs ro_nn x1 ) (And.intro rfl (fun r9 A9 h9 => ?_)))))))
  rcases h9 with ⟨y2, rfl, rfl, ⟨rfl, by2⟩ | ⟨rfl, by2⟩⟩
  · skip
    have k1 : (1 : Int32).toInt = 1 := rfl
    refine And.intro (fun c9 => absurd c9 (by decide)) (fun _ => ?_)
    refine And.intro (Exists.intro _ (cw_ro_o hI.1 ro_nn)) (Exists.intro _ (Exists.intro _ (Exists.intro _ (Exists.intro _ (And.intro (c_X7_hasName hI hs ro_nn x2 ) (And.intro rfl (fun r9 A9 h9 => ?_)))))))
    rcases h9 with ⟨y4, rfl, rfl, ⟨rfl, by4⟩ | ⟨rfl, by4⟩⟩
    · skip
      refine And.intro (fun c9 => absurd c9 (by decide)) (fun _ => ?_)
      refine Exists.intro _ (And.intro (cw_o0 hI.1) ?_)
      have km1 : (-1 : Int32).toInt = -1 := rfl
      refine And.intro (Exists.intro _ (cw_o9 hI.1)) (Exists.intro _ (Exists.intro _ (Exists.intro _ (Exists.intro _ (And.intro (F_X5_add hI hs (-1 : Int32) x1 x2 ) (And.intro rfl (fun r9 A9 h9 => ?_)))))))
      rcases h9 with ⟨w7, e7, v7, f7, rfl, hI7, hs7, hy7, y6, rfl, by6⟩
      have hx7 : e7 15 = e 15 := hy7.trans rfl
      have hu8 := hI7.2.1
      unfold cw_W at hu8
      have hb_31 := by6.2
      refine hC.1 2 38 _ _ rfl _ _ _ _ _ ?_
      exact ⟨rfl, fun e9 => absurd e9 (by decide), rfl, w7, e7, v7, f7, rfl, hI7, hs7, hx7, y6, rfl, by first | trivial | omega | (dsimp only; omega), by first | (exact hb_31) | (exact fun _ _ => ⟨rfl, rfl⟩)⟩
    · skip
      have k0 : (0 : Int32).toInt = 0 := rfl
      refine And.intro (fun _ => ?_) (fun c9 => absurd c9 (by decide))
      refine hC.1 1 37 _ _ rfl _ _ _ _ _ ?_
      have km1 : (-1 : Int32).toInt = -1 := rfl
      refine hC.1 2 38 _ _ rfl _ _ _ _ _ ?_
      exact ⟨rfl, fun e9 => absurd e9 (by decide), rfl, w, e, v, f, rfl, hI, hs, rfl, (-1 : Int32), rfl, by first | trivial | omega | (dsimp only; omega), by first | (exact hb_31) | (exact fun _ _ => ⟨rfl, rfl⟩)⟩
  · skip
    have k0 : (0 : Int32).toInt = 0 := rfl
    refine And.intro (fun _ => ?_) (fun c9 => absurd c9 (by decide))
    refine hC.1 1 37 _ _ rfl _ _ _ _ _ ?_
    have km1 : (-1 : Int32).toInt = -1 := rfl
    refine hC.1 2 38 _ _ rfl _ _ _ _ _ ?_
    exact ⟨rfl, fun e9 => absurd e9 (by decide), rfl, w, e, v, f, rfl, hI, hs, rfl, (-1 : Int32), rfl, by first | trivial | omega | (dsimp only; omega), by first | (exact hb_31) | (exact fun _ _ => ⟨rfl, rfl⟩)⟩

set_option maxRecDepth 100000 in
set_option maxHeartbeats 2000000 in
theorem F_X10_askOf (hI : cw_I K nn dn q w e) (hs : cw_S v f) (x1 : Int32) (x2 : Int32) (x3 : Int32)  : pm_Mt l g 160 2 0 0 [.ref (q 0), .int x1, .int x2, .int x3] (cw A0 g K nn dn q w e v f) (cw_Qt A0 g K nn dn q (fun r w2 e2 => e2 15 = e 15 ∧ (∃ x : Int32, r = some (.int x) ∧ (((w2 0).toInt = (w 0).toInt ∧ (w2 1).toInt = (w 1).toInt) ∧ ((∀ i9, 40 ≤ i9 → w2 i9 = w i9 ∧ e2 i9 = e i9)))))) := by
  refine mt_X10_askOf rfl (fun J hC => ?_)
  have ro_nn : cw_ro K nn := hI.2.1.2.1
  have ro_dn : cw_ro K dn := hI.2.1.2.2.1
  have hu1 := hI.2.1
  unfold cw_W at hu1
  have rg_x1 := pm_rng x1
  have rg_x2 := pm_rng x2
  have rg_x3 := pm_rng x3
  refine hC.1 0 0 _ _ rfl _ _ _ _ _ ?_
  refine Exists.intro _ (And.intro (cw_o0 hI.1) ?_)
  refine And.intro (Exists.intro _ (cw_o1 hI.1)) (Exists.intro _ (Exists.intro _ (Exists.intro _ (Exists.intro _ (And.intro (c_X9_behind hI hs x1 ) (And.intro rfl (fun r9 A9 h9 => ?_)))))))
  rcases h9 with ⟨rfl, rfl | ⟨o3, rfl, ho3⟩⟩
  · skip
    refine hC.1 1 33 _ _ rfl _ _ _ _ _ ?_
    have km1 : (-1 : Int32).toInt = -1 := rfl
    exact ⟨rfl, fun e9 => absurd e9 (by decide), rfl, w, e, v, f, rfl, hI, hs, rfl, (-1 : Int32), rfl, by first | trivial | omega | (dsimp only; omega), by first | (exact hb_42) | (exact fun _ _ => ⟨rfl, rfl⟩)⟩
  · skip
    refine And.intro (Exists.intro _ (cw_ro_o hI.1 ho3)) (Exists.intro _ (Exists.intro _ (Exists.intro _ (Exists.intro _ (And.intro (c_X7_hasName hI hs ho3 x2 ) (And.intro rfl (fun r9 A9 h9 => ?_)))))))
    rcases h9 with ⟨y4, rfl, rfl, ⟨rfl, by4⟩ | ⟨rfl, by4⟩⟩
    · skip
      have k1 : (1 : Int32).toInt = 1 := rfl
      refine And.intro (fun c9 => absurd c9 (by decide)) (fun _ => ?_)
      refine And.intro (Exists.intro _ (cw_ro_o hI.1 ho3)) (Exists.intro _ (Exists.intro _ (Exists.intro _ (Exists.intro _ (And.intro (c_X7_hasName hI hs ho3 x3 ) (And.intro rfl (fun r9 A9 h9 => ?_)))))))
      rcases h9 with ⟨y6, rfl, rfl, ⟨rfl, by6⟩ | ⟨rfl, by6⟩⟩
      · skip
        refine And.intro (fun _ => ?_) (fun c9 => absurd c9 (by decide))
        refine hC.1 2 35 _ _ rfl _ _ _ _ _ ?_
        refine Exists.intro _ (And.intro (cw_o0 hI.1) ?_)
        refine And.intro (Exists.intro _ (cw_o9 hI.1)) (Exists.intro _ (Exists.intro _ (Exists.intro _ (Exists.intro _ (And.intro (F_X5_add hI hs x1 x2 x3 ) (And.intro rfl (fun r9 A9 h9 => ?_)))))))
        rcases h9 with ⟨w9, e9, v9, f9, rfl, hI9, hs9, hy9, y8, rfl, by8⟩
        have hx9 : e9 15 = e 15 := hy9.trans rfl
        have hu10 := hI9.2.1
        unfold cw_W at hu10
        have hb_42 := by8.2
        exact ⟨rfl, fun e9 => absurd e9 (by decide), rfl, w9, e9, v9, f9, rfl, hI9, hs9, hx9, y8, rfl, by first | trivial | omega | (dsimp only; omega), by first | (exact hb_42) | (exact fun _ _ => ⟨rfl, rfl⟩)⟩
      · skip
        have k0 : (0 : Int32).toInt = 0 := rfl
        refine And.intro (fun c9 => absurd c9 (by decide)) (fun _ => ?_)
        refine hC.1 1 33 _ _ rfl _ _ _ _ _ ?_
        have km1 : (-1 : Int32).toInt = -1 := rfl
        exact ⟨rfl, fun e9 => absurd e9 (by decide), rfl, w, e, v, f, rfl, hI, hs, rfl, (-1 : Int32), rfl, by first | trivial | omega | (dsimp only; omega), by first | (exact hb_42) | (exact fun _ _ => ⟨rfl, rfl⟩)⟩
    · skip
      have k0 : (0 : Int32).toInt = 0 := rfl
      refine And.intro (fun _ => ?_) (fun c9 => absurd c9 (by decide))
      refine hC.1 1 33 _ _ rfl _ _ _ _ _ ?_
      have km1 : (-1 : Int32).toInt = -1 := rfl
      exact ⟨rfl, fun e9 => absurd e9 (by decide), rfl, w, e, v, f, rfl, hI, hs, rfl, (-1 : Int32), rfl, by first | trivial | omega | (dsimp only; omega), by first | (exact hb_42) | (exact fun _ _ => ⟨rfl, rfl⟩)⟩

set_option maxRecDepth 100000 in
set_option maxHeartbeats 2000000 in
theorem F_X10_forget (hI : cw_I K nn dn q w e) (hs : cw_S v f)   : pm_Mt l g 165 0 0 0 [.ref (q 0)] (cw A0 g K nn dn q w e v f) (cw_Qt A0 g K nn dn q (fun r w2 e2 => e2 15 = e 15 ∧ (∃ x : Int32, r = some (.int x) ∧ (((w2 0).toInt = (w 0).toInt ∧ (w2 1).toInt = (w 1).toInt) ∧ ((∀ i9, 40 ≤ i9 → w2 i9 = w i9 ∧ e2 i9 = e i9)))))) := by
  refine mt_X10_forget rfl (fun J hC => ?_)
  have ro_nn : cw_ro K nn := hI.2.1.2.1
  have ro_dn : cw_ro K dn := hI.2.1.2.2.1
  have hu1 := hI.2.1
  unfold cw_W at hu1
  refine hC.1 0 0 _ _ rfl _ _ _ _ _ ?_
  refine Exists.intro _ (And.intro (cw_o0 hI.1) ?_)
  refine Exists.intro _ (And.intro (cw_o9 hI.1) ?_)
  refine Exists.intro _ (And.intro (cw_o0 hI.1) ?_)
  have k0 : (0 : Int32).toInt = 0 := rfl
  refine Exists.intro _ (And.intro (cw_o9 hI.1) (And.intro rfl ?_))
  rw [cw_p_number hI.1]
  obtain ⟨w2, ew2⟩ : ∃ z9, z9 = upd w 3 (0 : Int32) := ⟨_, rfl⟩
  rw [← ew2]
  have ew2_0 : (w2 0).toInt = (w 0).toInt := by rw [ew2]; rfl
  have ew2_1 : (w2 1).toInt = (w 1).toInt := by rw [ew2]; rfl
  have ew2_2 : (w2 2).toInt = (w 2).toInt := by rw [ew2]; rfl
  have ew2_3 : (w2 3).toInt = ((0 : Int32)).toInt := by rw [ew2]; rfl
  have pn_13 : w2 3 = (0 : Int32) := by rw [ew2, pk_us]
  have pw_13 := ew2
  have hZ2 : cw_Z w2 := by rw [ew2]; exact cw_Z_up hI.2.2.1 _ _ (by omega)
  have hI2 : cw_I K nn dn q w2 e := ⟨hI.1, by unfold cw_W; omega, hZ2, hI.2.2.2⟩
  exact ⟨rfl, fun e9 => absurd e9 (by decide), rfl, w2, e, v, f, rfl, hI2, hs, rfl, (w 3), rfl, by first | trivial | omega | (dsimp only; omega), by exact fun i9 h9 => ⟨by rw [pw_13, pk_un (by omega)], rfl⟩⟩

end
