section
variable {l : Launch} {g : pm_G} {A0 : pm_H} {K nn dn : Nat} {q : Nat → Nat} {w : Nat → Int32} {e : Nat → Nat → Int32} {v : Nat → Int32} {f : Nat → Nat → Int32}
set_option maxRecDepth 100000 in
set_option maxHeartbeats 2000000 in
theorem c_X9_append (hI : cw_I K nn dn q w e) (hs : cw_S v f) (x1 : Int32) (x2 : Int32) (x3 : Int32) (p0 : 0 ≤ x1.toInt ∧ x1.toInt ≤ 23) : pm_Mt l g 22 0 0 0 [.ref (q 1), .int x1, .int x2, .int x3] (cw A0 g K nn dn q w e v f) (cw_Qt A0 g K nn dn q (fun r w2 e2 => e2 15 = e 15 ∧ (r = none ∧ ((w2 0).toInt = (w 0).toInt ∧ (w2 1).toInt = (w 1).toInt ∧ (w2 3).toInt = (w 3).toInt)))) := by
  refine mt_X9_append rfl (fun J hC => ?_)
  have ro_nn : cw_ro K nn := hI.2.1.2.1
  have ro_dn : cw_ro K dn := hI.2.1.2.2.1
  have hu1 := hI.2.1
  unfold cw_W at hu1
  have zs2 := cw_sz hI ro_nn
  have zs3 := cw_sz hI ro_dn
  have rg_x1 := pm_rng x1
  have rg_x2 := pm_rng x2
  have rg_x3 := pm_rng x3
  refine hC.1 0 0 _ _ rfl _ _ _ _ _ ?_
  refine Exists.intro _ (And.intro (cw_o1 hI.1) ?_)
  refine Exists.intro _ (And.intro (cw_ro_o hI.1 ro_dn) ?_)
  have z4 := cw_sz hI ro_dn
  refine And.intro (fun c5 => ?_) (fun c5 => ?_)
  · skip
    refine hC.1 1 22 _ _ rfl _ _ _ _ _ ?_
    exact ⟨rfl, rfl, w, e, v, f, rfl, hI, hs, rfl, rfl, by first | trivial | omega | (dsimp only; omega)⟩
  · skip
    have k160 : (160 : Int32).toInt = 160 := rfl
    refine And.intro (fun c6 => ?_) (fun c6 => ?_)
    · skip
      refine hC.1 2 23 _ _ rfl _ _ _ _ _ ?_
      refine Exists.intro _ (And.intro (cw_o1 hI.1) ?_)
      refine Exists.intro _ (And.intro (cw_ro_o hI.1 ro_dn) ?_)
      refine Exists.intro _ (Exists.intro _ (And.intro (cw_ro_1 hI.1 ro_dn) (And.intro (by omega) ?_)))
      rw [cw_sr_1 hI.1 ro_dn]
      have hb7 := ro_dn
      unfold cw_ro at hb7
      obtain ⟨e8, ee8⟩ : ∃ z9, z9 = va_up e (dn + 1) (upd (e (dn + 1)) ((w dn)).toInt.toNat x1) := ⟨_, rfl⟩
      rw [← ee8]
      have hI8 : cw_I K nn dn q w e8 := ⟨hI.1, hI.2.1, hI.2.2.1, by rw [ee8]; exact cw_E_1 hI.2.2.2 (by omega) _ _ (by omega)⟩
      have hx8 : e8 15 = e 15 := (show e8 15 = e 15 by rw [ee8]; exact if_neg (by omega)).trans rfl
      refine Exists.intro _ (And.intro (cw_o1 hI8.1) ?_)
      refine Exists.intro _ (And.intro (cw_ro_o hI8.1 ro_dn) ?_)
      refine Exists.intro _ (Exists.intro _ (And.intro (cw_ro_2 hI8.1 ro_dn) (And.intro (by omega) ?_)))
      rw [cw_sr_2 hI8.1 ro_dn]
      have hb9 := ro_dn
      unfold cw_ro at hb9
      obtain ⟨e10, ee10⟩ : ∃ z9, z9 = va_up e8 (dn + 2) (upd (e8 (dn + 2)) ((w dn)).toInt.toNat x2) := ⟨_, rfl⟩
      rw [← ee10]
      have hI10 : cw_I K nn dn q w e10 := ⟨hI8.1, hI8.2.1, hI8.2.2.1, by rw [ee10]; exact cw_E_2 hI8.2.2.2 (by omega) _⟩
      have hx10 : e10 15 = e 15 := (show e10 15 = e8 15 by rw [ee10]; exact if_neg (by omega)).trans hx8
      refine Exists.intro _ (And.intro (cw_o1 hI10.1) ?_)
      refine Exists.intro _ (Exists.intro _ (And.intro (cw_a12 hI10.1) (And.intro (by omega) ?_)))
      rw [cw_s12 hI10.1]
      obtain ⟨f11, ef11⟩ : ∃ z9, z9 = va_up f 12 (upd (f 12) ((w dn)).toInt.toNat x3) := ⟨_, rfl⟩
      rw [← ef11]
      have hs11 : cw_S v f11 := by rw [ef11]; exact cw_S_fr hs _ _ (by decide) (by decide)
      refine Exists.intro _ (And.intro (cw_o1 hI10.1) ?_)
      have k1 : (1 : Int32).toInt = 1 := rfl
      intro m12 em_60
      try have e12 : m12.toInt = ((w dn)).toInt + (1) := by rw [em_60]; exact pm_addc _ _ (1) rfl (by omega) (by omega)
      refine Exists.intro _ (And.intro (cw_ro_o hI10.1 ro_dn) (And.intro rfl ?_))
      rw [cw_p_size hI10.1 ro_dn]
      have hb13 := ro_dn
      unfold cw_ro at hb13
      obtain ⟨w14, ew14⟩ : ∃ z9, z9 = upd w dn m12 := ⟨_, rfl⟩
      rw [← ew14]
      have ew14_0 : (w14 0).toInt = (w 0).toInt := by rw [ew14, pk_un (by omega)]
      have ew14_1 : (w14 1).toInt = (w 1).toInt := by rw [ew14, pk_un (by omega)]
      have ew14_2 : (w14 2).toInt = (w 2).toInt := by rw [ew14, pk_un (by omega)]
      have ew14_3 : (w14 3).toInt = (w 3).toInt := by rw [ew14, pk_un (by omega)]
      have pn_61 : w14 dn = m12 := by rw [ew14, pk_us]
      have hZ14 : cw_Z w14 := by rw [ew14]; exact cw_Z_up hI10.2.2.1 _ _ (by omega)
      have hI14 : cw_I K nn dn q w14 e10 := ⟨hI10.1, by unfold cw_W; omega, hZ14, hI10.2.2.2⟩
      exact ⟨rfl, rfl, w14, e10, v, f11, rfl, hI14, hs11, hx10, rfl, by first | trivial | omega | (dsimp only; omega)⟩
    · skip
      refine hC.1 1 22 _ _ rfl _ _ _ _ _ ?_
      exact ⟨rfl, rfl, w, e, v, f, rfl, hI, hs, rfl, rfl, by first | trivial | omega | (dsimp only; omega)⟩

set_option maxRecDepth 100000 in
set_option maxHeartbeats 2000000 in
theorem c_X9_keep (hI : cw_I K nn dn q w e) (hs : cw_S v f) (x1 : Int32) (x2 : Int32)  : pm_Mt l g 18 3 0 0 [.ref (q 1), .int x1, .int x2] (cw A0 g K nn dn q w e v f) (cw_Qt A0 g K nn dn q (fun r w2 e2 => e2 15 = e 15 ∧ (r = none ∧ ((w2 0).toInt = (w 0).toInt ∧ (w2 1).toInt = (w 1).toInt ∧ (w2 3).toInt = (w 3).toInt)))) := by
  refine mt_X9_keep rfl (fun J hC => ?_)
  have ro_nn : cw_ro K nn := hI.2.1.2.1
  have ro_dn : cw_ro K dn := hI.2.1.2.2.1
  have hu1 := hI.2.1
  unfold cw_W at hu1
  have zs2 := cw_sz hI ro_nn
  have zs3 := cw_sz hI ro_dn
  have rg_x1 := pm_rng x1
  have rg_x2 := pm_rng x2
  refine hC.1 0 0 _ _ rfl _ _ _ _ _ ?_
  have lp5 : ∀ (n : Nat) (z3_2 : Int32) (w4 : Nat → Int32) (e4 : Nat → Nat → Int32) (v4 : Nat → Int32) (f4 : Nat → Nat → Int32), cw_I K nn dn q w4 e4 → e4 15 = e 15 → cw_S v4 f4 → (w4 0).toInt = (w 0).toInt → (w4 1).toInt = (w 1).toInt → (w4 3).toInt = (w 3).toInt → ((200 - z3_2.toInt).toNat : Int) < (n : Int) → J 2 [some (.ref (q 1)), some (.int x1), some (.int x2), some (.int z3_2)] [] (cw A0 g K nn dn q w4 e4 v4 f4) 0 0 := by
    intro n
    induction n with
    | zero =>
      intro z3_2 w4 e4 v4 f4 hI4 hx4 hs4 j0_2 j1_2 j2_2 j3_2
      omega
    | succ n ih6 =>
      intro z3_2 w4 e4 v4 f4 hI4 hx4 hs4 j0_2 j1_2 j2_2 j3_2
      have hu7 := hI4.2.1
      unfold cw_W at hu7
      have zs8 := cw_sz hI4 ro_nn
      have zs9 := cw_sz hI4 ro_dn
      refine hC.1 1 2 _ _ rfl _ _ _ _ _ ?_
      refine And.intro (fun c10 => ?_) (fun c10 => ?_)
      · skip
        refine hC.1 2 54 _ _ rfl _ _ _ _ _ ?_
        exact ⟨rfl, rfl, w4, e4, v4, f4, rfl, hI4, hs4, hx4, rfl, by first | trivial | omega | (dsimp only; omega)⟩
      · skip
        refine Exists.intro _ (And.intro (cw_o1 hI4.1) ?_)
        refine And.intro (Exists.intro _ (cw_ro_o hI4.1 ro_nn)) (Exists.intro _ (Exists.intro _ (Exists.intro _ (Exists.intro _ (And.intro (c_X7_has hI4 hs4 ro_nn z3_2 ) (And.intro rfl (fun r9 A9 h9 => ?_)))))))
        rcases h9 with ⟨y11, rfl, rfl, ⟨rfl, by11⟩ | ⟨rfl, by11⟩⟩
        · skip
          have k1 : (1 : Int32).toInt = 1 := rfl
          refine And.intro (fun c9 => absurd c9 (by decide)) (fun _ => ?_)
          refine Exists.intro _ (And.intro (cw_o1 hI4.1) ?_)
          refine Exists.intro _ (And.intro (cw_ro_o hI4.1 ro_nn) ?_)
          refine Exists.intro _ (Exists.intro _ (And.intro (Or.inl (cw_ro_1 hI4.1 ro_nn)) (And.intro (by omega) ?_)))
          have w13 := cw_col hI4 ro_nn (z3_2).toInt.toNat
          refine Exists.intro _ (And.intro (cw_o1 hI4.1) ?_)
          refine Exists.intro _ (And.intro (cw_ro_o hI4.1 ro_nn) ?_)
          refine Exists.intro _ (Exists.intro _ (And.intro (Or.inl (cw_ro_2 hI4.1 ro_nn)) (And.intro (by omega) ?_)))
          refine Exists.intro _ (And.intro (cw_o1 hI4.1) ?_)
          refine And.intro (Exists.intro _ (cw_ro_o hI4.1 ro_nn)) (Exists.intro _ (Exists.intro _ (Exists.intro _ (Exists.intro _ (And.intro (c_X7_bondAt hI4 hs4 ro_nn z3_2 ) (And.intro rfl (fun r9 A9 h9 => ?_)))))))
          obtain ⟨y14, rfl, rfl, by14⟩ := h9
          refine And.intro (Exists.intro _ (cw_o1 hI4.1)) (Exists.intro _ (Exists.intro _ (Exists.intro _ (Exists.intro _ (And.intro (c_X9_append hI4 hs4 (e4 (nn + 1) (z3_2).toInt.toNat) (e4 (nn + 2) (z3_2).toInt.toNat) y14 (by omega)) (And.intro rfl (fun r9 A9 h9 => ?_)))))))
          rcases h9 with ⟨w17, e17, v17, f17, rfl, hI17, hs17, hy17, rfl, by16⟩
          have hx17 : e17 15 = e 15 := hy17.trans hx4
          have hu18 := hI17.2.1
          unfold cw_W at hu18
          have zs19 := cw_sz hI17 ro_nn
          have zs20 := cw_sz hI17 ro_dn
          intro m21 em_48
          try have e21 : m21.toInt = (z3_2).toInt + (1) := by rw [em_48]; exact pm_addc _ _ (1) rfl (by omega) (by omega)
          exact ih6 m21 w17 e17 v17 f17 hI17 hx17 hs17 (by omega) (by omega) (by omega) (by omega)
        · skip
          have k0 : (0 : Int32).toInt = 0 := rfl
          refine And.intro (fun _ => ?_) (fun c9 => absurd c9 (by decide))
          refine hC.1 2 54 _ _ rfl _ _ _ _ _ ?_
          exact ⟨rfl, rfl, w4, e4, v4, f4, rfl, hI4, hs4, hx4, rfl, by first | trivial | omega | (dsimp only; omega)⟩
  exact lp5 (((200 - x1.toInt).toNat : Int)).toNat.succ x1 w e v f hI rfl hs (by omega) (by omega) (by omega) (by omega)

set_option maxRecDepth 100000 in
set_option maxHeartbeats 2000000 in
theorem c_X9_keepAs (hI : cw_I K nn dn q w e) (hs : cw_S v f) (x1 : Int32) (x2 : Int32) (p0 : 0 ≤ x2.toInt ∧ x2.toInt ≤ 23) : pm_Mt l g 23 3 0 0 [.ref (q 1), .int x1, .int x2] (cw A0 g K nn dn q w e v f) (cw_Qt A0 g K nn dn q (fun r w2 e2 => e2 15 = e 15 ∧ (r = none ∧ ((w2 0).toInt = (w 0).toInt ∧ (w2 1).toInt = (w 1).toInt ∧ (w2 3).toInt = (w 3).toInt)))) := by
  refine mt_X9_keepAs rfl (fun J hC => ?_)
  have ro_nn : cw_ro K nn := hI.2.1.2.1
  have ro_dn : cw_ro K dn := hI.2.1.2.2.1
  have hu1 := hI.2.1
  unfold cw_W at hu1
  have zs2 := cw_sz hI ro_nn
  have zs3 := cw_sz hI ro_dn
  have rg_x1 := pm_rng x1
  have rg_x2 := pm_rng x2
  refine hC.1 0 0 _ _ rfl _ _ _ _ _ ?_
  refine Exists.intro _ (And.intro (cw_o1 hI.1) ?_)
  refine And.intro (Exists.intro _ (cw_ro_o hI.1 ro_nn)) (Exists.intro _ (Exists.intro _ (Exists.intro _ (Exists.intro _ (And.intro (c_X7_has hI hs ro_nn x1 ) (And.intro rfl (fun r9 A9 h9 => ?_)))))))
  rcases h9 with ⟨y4, rfl, rfl, ⟨rfl, by4⟩ | ⟨rfl, by4⟩⟩
  · skip
    have k1 : (1 : Int32).toInt = 1 := rfl
    refine And.intro (fun c9 => absurd c9 (by decide)) (fun _ => ?_)
    refine Exists.intro _ (And.intro (cw_o1 hI.1) ?_)
    refine Exists.intro _ (And.intro (cw_ro_o hI.1 ro_nn) ?_)
    refine Exists.intro _ (Exists.intro _ (And.intro (Or.inl (cw_ro_2 hI.1 ro_nn)) (And.intro (by omega) ?_)))
    refine Exists.intro _ (And.intro (cw_o1 hI.1) ?_)
    refine And.intro (Exists.intro _ (cw_ro_o hI.1 ro_nn)) (Exists.intro _ (Exists.intro _ (Exists.intro _ (Exists.intro _ (And.intro (c_X7_bondAt hI hs ro_nn x1 ) (And.intro rfl (fun r9 A9 h9 => ?_)))))))
    obtain ⟨y6, rfl, rfl, by6⟩ := h9
    refine And.intro (Exists.intro _ (cw_o1 hI.1)) (Exists.intro _ (Exists.intro _ (Exists.intro _ (Exists.intro _ (And.intro (c_X9_append hI hs x2 (e (nn + 2) (x1).toInt.toNat) y6 (by omega)) (And.intro rfl (fun r9 A9 h9 => ?_)))))))
    rcases h9 with ⟨w9, e9, v9, f9, rfl, hI9, hs9, hy9, rfl, by8⟩
    have hx9 : e9 15 = e 15 := hy9.trans rfl
    have hu10 := hI9.2.1
    unfold cw_W at hu10
    have zs11 := cw_sz hI9 ro_nn
    have zs12 := cw_sz hI9 ro_dn
    refine hC.1 1 33 _ _ rfl _ _ _ _ _ ?_
    exact ⟨rfl, rfl, w9, e9, v9, f9, rfl, hI9, hs9, hx9, rfl, by first | trivial | omega | (dsimp only; omega)⟩
  · skip
    have k0 : (0 : Int32).toInt = 0 := rfl
    refine And.intro (fun _ => ?_) (fun c9 => absurd c9 (by decide))
    refine hC.1 1 33 _ _ rfl _ _ _ _ _ ?_
    exact ⟨rfl, rfl, w, e, v, f, rfl, hI, hs, rfl, rfl, by first | trivial | omega | (dsimp only; omega)⟩

set_option maxRecDepth 100000 in
set_option maxHeartbeats 2000000 in
theorem c_X9_keepThoseOf (hI : cw_I K nn dn q w e) (hs : cw_S v f) (x1 : Int32) (x2 : Int32) (x3 : Int32) (p0 : 0 ≤ x1.toInt ∧ x1.toInt ≤ 23) : pm_Mt l g 33 4 0 0 [.ref (q 1), .int x1, .int x2, .int x3] (cw A0 g K nn dn q w e v f) (cw_Qt A0 g K nn dn q (fun r w2 e2 => e2 15 = e 15 ∧ (r = none ∧ ((w2 0).toInt = (w 0).toInt ∧ (w2 1).toInt = (w 1).toInt ∧ (w2 3).toInt = (w 3).toInt)))) := by
  refine mt_X9_keepThoseOf rfl (fun J hC => ?_)
  have ro_nn : cw_ro K nn := hI.2.1.2.1
  have ro_dn : cw_ro K dn := hI.2.1.2.2.1
  have hu1 := hI.2.1
  unfold cw_W at hu1
  have zs2 := cw_sz hI ro_nn
  have zs3 := cw_sz hI ro_dn
  have rg_x1 := pm_rng x1
  have rg_x2 := pm_rng x2
  have rg_x3 := pm_rng x3
  refine hC.1 0 0 _ _ rfl _ _ _ _ _ ?_
  have lp5 : ∀ (n : Nat) (z4_3 : Int32) (w4 : Nat → Int32) (e4 : Nat → Nat → Int32) (v4 : Nat → Int32) (f4 : Nat → Nat → Int32), cw_I K nn dn q w4 e4 → e4 15 = e 15 → cw_S v4 f4 → (w4 0).toInt = (w 0).toInt → (w4 1).toInt = (w 1).toInt → (w4 3).toInt = (w 3).toInt → ((200 - z4_3.toInt).toNat : Int) < (n : Int) → J 3 [some (.ref (q 1)), some (.int x1), some (.int x2), some (.int x3), some (.int z4_3)] [] (cw A0 g K nn dn q w4 e4 v4 f4) 0 0 := by
    intro n
    induction n with
    | zero =>
      intro z4_3 w4 e4 v4 f4 hI4 hx4 hs4 j0_3 j1_3 j2_3 j3_3
      omega
    | succ n ih6 =>
      intro z4_3 w4 e4 v4 f4 hI4 hx4 hs4 j0_3 j1_3 j2_3 j3_3
      have hu7 := hI4.2.1
      unfold cw_W at hu7
      have zs8 := cw_sz hI4 ro_nn
      have zs9 := cw_sz hI4 ro_dn
      refine hC.1 1 3 _ _ rfl _ _ _ _ _ ?_
      refine And.intro (fun c10 => ?_) (fun c10 => ?_)
      · skip
        refine hC.1 3 48 _ _ rfl _ _ _ _ _ ?_
        exact ⟨rfl, rfl, w4, e4, v4, f4, rfl, hI4, hs4, hx4, rfl, by first | trivial | omega | (dsimp only; omega)⟩
      · skip
        refine Exists.intro _ (And.intro (cw_o1 hI4.1) ?_)
        refine And.intro (Exists.intro _ (cw_ro_o hI4.1 ro_nn)) (Exists.intro _ (Exists.intro _ (Exists.intro _ (Exists.intro _ (And.intro (c_X7_has hI4 hs4 ro_nn z4_3 ) (And.intro rfl (fun r9 A9 h9 => ?_)))))))
        rcases h9 with ⟨y11, rfl, rfl, ⟨rfl, by11⟩ | ⟨rfl, by11⟩⟩
        · skip
          have k1 : (1 : Int32).toInt = 1 := rfl
          refine And.intro (fun c9 => absurd c9 (by decide)) (fun _ => ?_)
          refine Exists.intro _ (And.intro (cw_o1 hI4.1) ?_)
          refine Exists.intro _ (And.intro (cw_ro_o hI4.1 ro_nn) ?_)
          refine Exists.intro _ (Exists.intro _ (And.intro (Or.inl (cw_ro_1 hI4.1 ro_nn)) (And.intro (by omega) ?_)))
          have w13 := cw_col hI4 ro_nn (z4_3).toInt.toNat
          refine And.intro (fun c14 => ?_) (fun c14 => ?_)
          · skip
            have dc14 := pm_neI c14
            refine hC.1 2 42 _ _ rfl _ _ _ _ _ ?_
            intro m15 em_42
            try have e15 : m15.toInt = (z4_3).toInt + (1) := by rw [em_42]; exact pm_addc _ _ (1) rfl (by omega) (by omega)
            exact ih6 m15 w4 e4 v4 f4 hI4 hx4 hs4 (by omega) (by omega) (by omega) (by omega)
          · skip
            have dc14 : ((e4 (nn + 1) (z4_3).toInt.toNat)).toInt = (x1 : Int32).toInt := congrArg Int32.toInt c14
            refine And.intro (Exists.intro _ (cw_o1 hI4.1)) (Exists.intro _ (Exists.intro _ (Exists.intro _ (Exists.intro _ (And.intro (c_X9_keepAs hI4 hs4 z4_3 x1 (by omega)) (And.intro rfl (fun r9 A9 h9 => ?_)))))))
            rcases h9 with ⟨w17, e17, v17, f17, rfl, hI17, hs17, hy17, rfl, by16⟩
            have hx17 : e17 15 = e 15 := hy17.trans hx4
            have hu18 := hI17.2.1
            unfold cw_W at hu18
            have zs19 := cw_sz hI17 ro_nn
            have zs20 := cw_sz hI17 ro_dn
            refine hC.1 2 42 _ _ rfl _ _ _ _ _ ?_
            intro m21 em_42
            try have e21 : m21.toInt = (z4_3).toInt + (1) := by rw [em_42]; exact pm_addc _ _ (1) rfl (by omega) (by omega)
            exact ih6 m21 w17 e17 v17 f17 hI17 hx17 hs17 (by omega) (by omega) (by omega) (by omega)
        · skip
          have k0 : (0 : Int32).toInt = 0 := rfl
          refine And.intro (fun _ => ?_) (fun c9 => absurd c9 (by decide))
          refine hC.1 3 48 _ _ rfl _ _ _ _ _ ?_
          exact ⟨rfl, rfl, w4, e4, v4, f4, rfl, hI4, hs4, hx4, rfl, by first | trivial | omega | (dsimp only; omega)⟩
  exact lp5 (((200 - x2.toInt).toNat : Int)).toNat.succ x2 w e v f hI rfl hs (by omega) (by omega) (by omega) (by omega)

set_option maxRecDepth 100000 in
set_option maxHeartbeats 2000000 in
theorem c_X9_add (hI : cw_I K nn dn q w e) (hs : cw_S v f) (x1 : Int32) (p0 : 0 ≤ x1.toInt ∧ x1.toInt ≤ 23) (p1 : (w 1).toInt < 10000) : pm_Mt l g 28 1 0 0 [.ref (q 1), .int x1] (cw A0 g K nn dn q w e v f) (cw_Qt A0 g K nn dn q (fun r w2 e2 => e2 15 = e 15 ∧ (r = none ∧ ((w2 0).toInt = (w 0).toInt ∧ (w2 3).toInt = (w 3).toInt ∧ (w2 1).toInt = (w 1).toInt + 1)))) := by
  refine mt_X9_add rfl (fun J hC => ?_)
  have ro_nn : cw_ro K nn := hI.2.1.2.1
  have ro_dn : cw_ro K dn := hI.2.1.2.2.1
  have hu1 := hI.2.1
  unfold cw_W at hu1
  have zs2 := cw_sz hI ro_nn
  have zs3 := cw_sz hI ro_dn
  have rg_x1 := pm_rng x1
  refine hC.1 0 0 _ _ rfl _ _ _ _ _ ?_
  refine Exists.intro _ (And.intro (cw_o1 hI.1) ?_)
  have km2 : (-2 : Int32).toInt = -2 := rfl
  refine And.intro (Exists.intro _ (cw_o1 hI.1)) (Exists.intro _ (Exists.intro _ (Exists.intro _ (Exists.intro _ (And.intro (c_X9_append hI hs x1 (w 1) (-2 : Int32) (by omega)) (And.intro rfl (fun r9 A9 h9 => ?_)))))))
  rcases h9 with ⟨w5, e5, v5, f5, rfl, hI5, hs5, hy5, rfl, by4⟩
  have hx5 : e5 15 = e 15 := hy5.trans rfl
  have hu6 := hI5.2.1
  unfold cw_W at hu6
  have zs7 := cw_sz hI5 ro_nn
  have zs8 := cw_sz hI5 ro_dn
  refine Exists.intro _ (And.intro (cw_o1 hI5.1) ?_)
  have k1 : (1 : Int32).toInt = 1 := rfl
  intro m9 em_17
  try have e9 : m9.toInt = ((w5 1)).toInt + (1) := by rw [em_17]; exact pm_addc _ _ (1) rfl (by omega) (by omega)
  refine Exists.intro _ (And.intro (cw_o1 hI5.1) (And.intro rfl ?_))
  rw [cw_p_named hI5.1]
  obtain ⟨w10, ew10⟩ : ∃ z9, z9 = upd w5 1 m9 := ⟨_, rfl⟩
  rw [← ew10]
  have ew10_0 : (w10 0).toInt = (w5 0).toInt := by rw [ew10]; rfl
  have ew10_1 : (w10 1).toInt = (m9).toInt := by rw [ew10]; rfl
  have ew10_2 : (w10 2).toInt = (w5 2).toInt := by rw [ew10]; rfl
  have ew10_3 : (w10 3).toInt = (w5 3).toInt := by rw [ew10]; rfl
  have pn_18 : w10 1 = m9 := by rw [ew10, pk_us]
  have hZ10 : cw_Z w10 := by rw [ew10]; exact cw_Z_up hI5.2.2.1 _ _ (by omega)
  have hI10 : cw_I K nn dn q w10 e5 := ⟨hI5.1, by unfold cw_W; omega, hZ10, hI5.2.2.2⟩
  exact ⟨rfl, rfl, w10, e5, v5, f5, rfl, hI10, hs5, hx5, rfl, by first | trivial | omega | (dsimp only; omega)⟩

set_option maxRecDepth 100000 in
set_option maxHeartbeats 2000000 in
theorem c_X9_finish (hI : cw_I K nn dn q w e) (hs : cw_S v f)  (p0 : (w 0).toInt + 2 ≤ K ∨ K = 41) (p1 : (w 0).toInt < 100000) : pm_Mt l g 24 3 0 0 [.ref (q 1)] (cw A0 g K nn dn q w e v f) (cw_Qt A0 g K dn dn q (fun r w2 e2 => e2 15 = e 15 ∧ (∃ x : Int32, r = some (.int x) ∧ ((w2 1).toInt = (w 1).toInt ∧ (w2 3).toInt = (w 3).toInt ∧ (w2 0).toInt = (w 0).toInt + 1)))) := by
  refine mt_X9_finish rfl (fun J hC => ?_)
  have ro_nn : cw_ro K nn := hI.2.1.2.1
  have ro_dn : cw_ro K dn := hI.2.1.2.2.1
  have hu1 := hI.2.1
  unfold cw_W at hu1
  have zs2 := cw_sz hI ro_nn
  have zs3 := cw_sz hI ro_dn
  have zz0 := cw_sz hI ro_dn
  refine hC.1 0 0 _ _ rfl _ _ _ _ _ ?_
  refine Exists.intro _ (And.intro (cw_o1 hI.1) ?_)
  have km1 : (-1 : Int32).toInt = -1 := rfl
  refine Exists.intro _ (Exists.intro _ (Exists.intro _ (Exists.intro _ (And.intro (c_fill (cw_a13 hI.1) (by decide) (-1 : Int32)) (And.intro rfl (fun r9 A9 h9 => ?_))))))
  obtain ⟨rfl, rfl⟩ := h9
  rw [cw_s13 hI.1]
  obtain ⟨f4, ef4⟩ : ∃ z9, z9 = va_up f 13 (fun j => if j < 24 then (-1 : Int32) else f 13 j) := ⟨_, rfl⟩
  rw [← ef4]
  have hs4 : cw_S v f4 := by rw [ef4]; exact cw_S_fl hs _ _ (by decide)
  have k0 : (0 : Int32).toInt = 0 := rfl
  have lp6 : ∀ (n : Nat) (z1_12 : Int32) (z2_12 : Int32) (w5 : Nat → Int32) (e5 : Nat → Nat → Int32) (v5 : Nat → Int32) (f5 : Nat → Nat → Int32), cw_I K nn dn q w5 e5 → e5 15 = e 15 → cw_S v5 f5 → (0 ≤ z2_12.toInt ∧ z2_12.toInt ≤ 160) → ((w5 0).toInt = (w 0).toInt) → (w5 1).toInt = (w 1).toInt → (w5 3).toInt = (w 3).toInt → 200 - z2_12.toInt < (n : Int) → J 12 [some (.ref (q 1)), some (.int z1_12), some (.int z2_12), none] [] (cw A0 g K nn dn q w5 e5 v5 f5) 0 0 := by
    intro n
    induction n with
    | zero =>
      intro z1_12 z2_12 w5 e5 v5 f5 hI5 hx5 hs5 j0_12 j1_12 j2_12 j3_12 j4_12
      omega
    | succ n ih7 =>
      intro z1_12 z2_12 w5 e5 v5 f5 hI5 hx5 hs5 j0_12 j1_12 j2_12 j3_12 j4_12
      have hu8 := hI5.2.1
      unfold cw_W at hu8
      have zs9 := cw_sz hI5 ro_nn
      have zs10 := cw_sz hI5 ro_dn
      refine hC.1 1 12 _ _ rfl _ _ _ _ _ ?_
      refine Exists.intro _ (And.intro (cw_o1 hI5.1) ?_)
      refine Exists.intro _ (And.intro (cw_ro_o hI5.1 ro_dn) ?_)
      have z11 := cw_sz hI5 ro_dn
      refine And.intro (fun c12 => ?_) (fun c12 => ?_)
      · skip
        refine hC.1 3 92 _ _ rfl _ _ _ _ _ ?_
        refine Exists.intro _ (And.intro (cw_o1 hI5.1) ?_)
        refine Exists.intro _ (And.intro (cw_ro_o hI5.1 ro_dn) (And.intro rfl ?_))
        rw [cw_p_touches hI5.1 ro_dn]
        have hb13 := ro_dn
        unfold cw_ro at hb13
        obtain ⟨w14, ew14⟩ : ∃ z9, z9 = upd w5 (dn + 1) z1_12 := ⟨_, rfl⟩
        rw [← ew14]
        have ew14_0 : (w14 0).toInt = (w5 0).toInt := by rw [ew14, pk_un (by omega)]
        have ew14_1 : (w14 1).toInt = (w5 1).toInt := by rw [ew14, pk_un (by omega)]
        have ew14_2 : (w14 2).toInt = (w5 2).toInt := by rw [ew14, pk_un (by omega)]
        have ew14_3 : (w14 3).toInt = (w5 3).toInt := by rw [ew14, pk_un (by omega)]
        have pn_97 : w14 (dn + 1) = z1_12 := by rw [ew14, pk_us]
        have hZ14 : cw_Z w14 := by rw [ew14]; exact cw_Z_up hI5.2.2.1 _ _ (by omega)
        have hI14 : cw_I K nn dn q w14 e5 := ⟨hI5.1, by unfold cw_W; omega, hZ14, hI5.2.2.2⟩
        refine Exists.intro _ (And.intro (cw_o1 hI14.1) ?_)
        refine Exists.intro _ (And.intro (cw_o1 hI14.1) (And.intro rfl ?_))
        rw [cw_p_now hI14.1]
        have hI15 : cw_I K dn dn q w14 e5 := ⟨hI14.1, by have hu9 := hI14.2.1; unfold cw_W at hu9 ⊢; omega, hI14.2.2.1, hI14.2.2.2⟩
        refine Exists.intro _ (And.intro (cw_o1 hI15.1) ?_)
        have k1 : (1 : Int32).toInt = 1 := rfl
        intro m16 em_114
        try have e16 : m16.toInt = ((w14 0)).toInt + (1) := by rw [em_114]; exact pm_addc _ _ (1) rfl (by omega) (by omega)
        refine Exists.intro _ (And.intro (cw_o1 hI15.1) (And.intro rfl ?_))
        rw [cw_p_edits hI15.1]
        obtain ⟨w17, ew17⟩ : ∃ z9, z9 = upd w14 0 m16 := ⟨_, rfl⟩
        rw [← ew17]
        have ew17_0 : (w17 0).toInt = (m16).toInt := by rw [ew17]; rfl
        have ew17_1 : (w17 1).toInt = (w14 1).toInt := by rw [ew17]; rfl
        have ew17_2 : (w17 2).toInt = (w14 2).toInt := by rw [ew17]; rfl
        have ew17_3 : (w17 3).toInt = (w14 3).toInt := by rw [ew17]; rfl
        have pn_115 : w17 0 = m16 := by rw [ew17, pk_us]
        have hZ17 : cw_Z w17 := by rw [ew17]; exact cw_Z_up hI15.2.2.1 _ _ (by omega)
        have hI17 : cw_I K dn dn q w17 e5 := ⟨hI15.1, by unfold cw_W; omega, hZ17, hI15.2.2.2⟩
        refine Exists.intro _ (And.intro (cw_o1 hI17.1) ?_)
        intro m18 em_124
        try have e18 : m18.toInt = ((w17 2)).toInt + (z1_12).toInt := by rw [em_124]; exact pm_add _ _ (by omega) (by omega)
        refine Exists.intro _ (And.intro (cw_o1 hI17.1) (And.intro rfl ?_))
        rw [cw_p_touchedInAll hI17.1]
        obtain ⟨w19, ew19⟩ : ∃ z9, z9 = upd w17 2 m18 := ⟨_, rfl⟩
        rw [← ew19]
        have ew19_0 : (w19 0).toInt = (w17 0).toInt := by rw [ew19]; rfl
        have ew19_1 : (w19 1).toInt = (w17 1).toInt := by rw [ew19]; rfl
        have ew19_2 : (w19 2).toInt = (m18).toInt := by rw [ew19]; rfl
        have ew19_3 : (w19 3).toInt = (w17 3).toInt := by rw [ew19]; rfl
        have pn_125 : w19 2 = m18 := by rw [ew19, pk_us]
        have hZ19 : cw_Z w19 := by rw [ew19]; exact cw_Z_up hI17.2.2.1 _ _ (by omega)
        have hI19 : cw_I K dn dn q w19 e5 := ⟨hI17.1, by unfold cw_W; omega, hZ19, hI17.2.2.2⟩
        exact ⟨rfl, fun e9 => absurd e9 (by decide), rfl, w19, e5, v5, f5, rfl, hI19, hs5, hx5, z1_12, rfl, by first | trivial | omega | (dsimp only; omega)⟩
      · skip
        refine Exists.intro _ (And.intro (cw_o1 hI5.1) ?_)
        refine Exists.intro _ (And.intro (cw_ro_o hI5.1 ro_dn) ?_)
        refine Exists.intro _ (Exists.intro _ (And.intro (Or.inl (cw_ro_1 hI5.1 ro_dn)) (And.intro (by omega) ?_)))
        have w20 := cw_col hI5 ro_dn (z2_12).toInt.toNat
        refine Exists.intro _ (And.intro (cw_o1 hI5.1) ?_)
        refine Exists.intro _ (And.intro (cw_ro_o hI5.1 ro_dn) ?_)
        refine Exists.intro _ (And.intro (cw_o1 hI5.1) ?_)
        refine Exists.intro _ (Exists.intro _ (And.intro (Or.inl (cw_a13 hI5.1)) (And.intro (by omega) ?_)))
        have w21 := hs5.2.2 ((e5 (dn + 1) (z2_12).toInt.toNat)).toInt.toNat
        refine Exists.intro _ (Exists.intro _ (And.intro (cw_ro_3 hI5.1 ro_dn) (And.intro (by omega) ?_)))
        rw [cw_sr_3 hI5.1 ro_dn]
        have hb22 := ro_dn
        unfold cw_ro at hb22
        obtain ⟨e23, ee23⟩ : ∃ z9, z9 = va_up e5 (dn + 3) (upd (e5 (dn + 3)) (z2_12).toInt.toNat (f5 13 ((e5 (dn + 1) (z2_12).toInt.toNat)).toInt.toNat)) := ⟨_, rfl⟩
        rw [← ee23]
        have hI23 : cw_I K nn dn q w5 e23 := ⟨hI5.1, hI5.2.1, hI5.2.2.1, by rw [ee23]; exact cw_E_3 hI5.2.2.2 (by omega) _ _ (by omega)⟩
        have hx23 : e23 15 = e 15 := (show e23 15 = e5 15 by rw [ee23]; exact if_neg (by omega)).trans hx5
        refine Exists.intro _ (And.intro (cw_o1 hI23.1) ?_)
        refine Exists.intro _ (Exists.intro _ (And.intro (cw_a13 hI23.1) (And.intro (by omega) ?_)))
        rw [cw_s13 hI23.1]
        obtain ⟨f24, ef24⟩ : ∃ z9, z9 = va_up f5 13 (upd (f5 13) ((e5 (dn + 1) (z2_12).toInt.toNat)).toInt.toNat z2_12) := ⟨_, rfl⟩
        rw [← ef24]
        have hs24 : cw_S v5 f24 := by rw [ef24]; exact cw_S_f13 hs5 _ _ (by omega)
        refine Exists.intro _ (And.intro (cw_o1 hI23.1) ?_)
        refine Exists.intro _ (Exists.intro _ (And.intro (Or.inl (cw_a12 hI23.1)) (And.intro (by omega) ?_)))
        have km2 : (-2 : Int32).toInt = -2 := rfl
        refine And.intro (fun c25 => ?_) (fun c25 => ?_)
        · skip
          have dc25 : ((f24 12 (z2_12).toInt.toNat)).toInt = ((-2 : Int32) : Int32).toInt := congrArg Int32.toInt c25
          refine hC.1 2 86 _ _ rfl _ _ _ _ _ ?_
          have k1 : (1 : Int32).toInt = 1 := rfl
          intro m26 em_86
          try have e26 : m26.toInt = (z2_12).toInt + (1) := by rw [em_86]; exact pm_addc _ _ (1) rfl (by omega) (by omega)
          exact hC.2 [false, false, false, true] _ _ _ _ _ _ (ih7 z1_12 m26 w5 e23 v5 f24 hI23 hx23 hs24 (by omega) (by omega) (by omega) (by omega) (by omega))
        · skip
          have dc25 := pm_neI c25
          refine Exists.intro _ (And.intro (cw_o1 hI23.1) ?_)
          refine Exists.intro _ (Exists.intro _ (And.intro (Or.inl (cw_a12 hI23.1)) (And.intro (by omega) ?_)))
          refine Exists.intro _ (And.intro (cw_o1 hI23.1) ?_)
          refine And.intro (Exists.intro _ (cw_ro_o hI23.1 ro_dn)) (Exists.intro _ (Exists.intro _ (Exists.intro _ (Exists.intro _ (And.intro (c_X7_bondAt hI23 hs24 ro_dn z2_12 ) (And.intro rfl (fun r9 A9 h9 => ?_)))))))
          obtain ⟨y27, rfl, rfl, by27⟩ := h9
          refine And.intro (fun c29 => ?_) (fun c29 => ?_)
          · skip
            have dc29 : ((f24 12 (z2_12).toInt.toNat)).toInt = (y27 : Int32).toInt := congrArg Int32.toInt c29
            refine hC.1 2 86 _ _ rfl _ _ _ _ _ ?_
            have k1 : (1 : Int32).toInt = 1 := rfl
            intro m30 em_86
            try have e30 : m30.toInt = (z2_12).toInt + (1) := by rw [em_86]; exact pm_addc _ _ (1) rfl (by omega) (by omega)
            exact hC.2 [false, false, false, true] _ _ _ _ _ _ (ih7 z1_12 m30 w5 e23 v5 f24 hI23 hx23 hs24 (by omega) (by omega) (by omega) (by omega) (by omega))
          · skip
            have dc29 := pm_neI c29
            have k1 : (1 : Int32).toInt = 1 := rfl
            intro m31 em_83
            try have e31 : m31.toInt = (z1_12).toInt + (1) := by rw [em_83]; exact pm_addc _ _ (1) rfl (by omega) (by omega)
            refine hC.1 2 86 _ _ rfl _ _ _ _ _ ?_
            intro m32 em_86
            try have e32 : m32.toInt = (z2_12).toInt + (1) := by rw [em_86]; exact pm_addc _ _ (1) rfl (by omega) (by omega)
            exact hC.2 [false, false, false, true] _ _ _ _ _ _ (ih7 m31 m32 w5 e23 v5 f24 hI23 hx23 hs24 (by omega) (by omega) (by omega) (by omega) (by omega))
  exact lp6 (200 - (0 : Int32).toInt).toNat.succ (0 : Int32) (0 : Int32) w e v f4 hI rfl hs4 (by omega) (by omega) (by omega) (by omega) (by omega)

set_option maxRecDepth 100000 in
set_option maxHeartbeats 2000000 in
theorem c_X10_paint (hI : cw_I K nn dn q w e) (hs : cw_S v f) (x1 : Int32) (x2 : Int32) (x3 : Int32) (p0 : (w 0).toInt < 100000) : pm_Mt l g 13 4 4 485 [.ref (q 0), .int x1, .int x2, .int x3] (cw A0 g K nn dn q w e v f) (cw_Qb A0 g K nn q (fun r K2 nn2 dn2 w2 e2 => e2 15 = e 15 ∧ (∃ x : Int32, r = some (.int x) ∧ ((w2 0).toInt ≤ (w 0).toInt + 1 ∧ (w 0).toInt ≤ (w2 0).toInt)))) := by
  refine mt_X10_paint rfl (fun J hC => ?_)
  have ro_nn : cw_ro K nn := hI.2.1.2.1
  have ro_dn : cw_ro K dn := hI.2.1.2.2.1
  have hu1 := hI.2.1
  unfold cw_W at hu1
  have zs2 := cw_sz hI ro_nn
  have zs3 := cw_sz hI ro_dn
  have rg_x1 := pm_rng x1
  have rg_x2 := pm_rng x2
  have rg_x3 := pm_rng x3
  refine hC.1 0 0 _ _ rfl _ _ _ _ _ ?_
  refine Exists.intro _ (And.intro (cw_o0 hI.1) ?_)
  refine Exists.intro _ (And.intro (cw_o1 hI.1) ?_)
  refine And.intro (Exists.intro _ (cw_ro_o hI.1 ro_nn)) (Exists.intro _ (Exists.intro _ (Exists.intro _ (Exists.intro _ (And.intro (c_X7_isSpan hI hs ro_nn x1 x2 ) (And.intro rfl (fun r9 A9 h9 => ?_)))))))
  rcases h9 with ⟨y4, rfl, rfl, ⟨rfl, by4⟩ | ⟨rfl, by4⟩⟩
  · skip
    have k1 : (1 : Int32).toInt = 1 := rfl
    refine And.intro (fun c9 => absurd c9 (by decide)) (fun _ => ?_)
    refine Exists.intro _ (Exists.intro _ (Exists.intro _ (Exists.intro _ (And.intro (c_X10_isColour (cw A0 g K nn dn q w e v f) x3 ) (And.intro rfl (fun r9 A9 h9 => ?_))))))
    rcases h9 with ⟨y6, rfl, rfl, ⟨rfl, by6⟩ | ⟨rfl, by6⟩⟩
    · skip
      refine And.intro (fun _ => ?_) (fun c9 => absurd c9 (by decide))
      refine hC.1 2 28 _ _ rfl _ _ _ _ _ ?_
      refine Exists.intro _ (And.intro (cw_o0 hI.1) ?_)
      refine And.intro (Exists.intro _ (cw_o1 hI.1)) (Exists.intro _ (Exists.intro _ (Exists.intro _ (Exists.intro _ (And.intro (c_X9_begin hI hs  (by omega)) (And.intro rfl (fun r9 A9 h9 => ?_)))))))
      obtain ⟨K9, dn9, q9, w9, e9, rfl, rfl, hI9, hX9, hk9, hw9, hy9⟩ := h9
      have hq9_0 : q 0 = q9 0 := (hX9.2.1 0 (by omega)).symm
      have hq9_nn : q nn = q9 nn := (hX9.2.1 nn (by omega)).symm
      rw [hq9_0, hq9_nn]
      have hw9_0 := congrArg Int32.toInt hw9.1
      have hw9_1 := congrArg Int32.toInt hw9.2.1
      have hw9_3 := congrArg Int32.toInt hw9.2.2.2
      have ro9 : cw_ro K9 dn9 := hI9.2.1.2.2.1
      have rn9 : cw_ro K9 nn := hI9.2.1.2.1
      have hx9 : e9 15 = e 15 := hy9.trans rfl
      have hu10 := hI9.2.1
      unfold cw_W at hu10
      have zs11 := cw_sz hI9 rn9
      have zs12 := cw_sz hI9 ro9
      refine Exists.intro _ (And.intro (cw_o0 hI9.1) ?_)
      have k0 : (0 : Int32).toInt = 0 := rfl
      intro m13 em_42
      try have e13 : m13.toInt = (x1).toInt - (1) := by rw [em_42]; exact pm_subc _ _ (1) rfl (by omega) (by omega)
      refine And.intro (Exists.intro _ (cw_o1 hI9.1)) (Exists.intro _ (Exists.intro _ (Exists.intro _ (Exists.intro _ (And.intro (c_X9_keep hI9 hs (0 : Int32) m13 ) (And.intro rfl (fun r9 A9 h9 => ?_)))))))
      rcases h9 with ⟨w15, e15, v15, f15, rfl, hI15, hs15, hy15, rfl, by14⟩
      have hx15 : e15 15 = e 15 := hy15.trans hx9
      have hu16 := hI15.2.1
      unfold cw_W at hu16
      have zs17 := cw_sz hI15 rn9
      have zs18 := cw_sz hI15 ro9
      have lp20 : ∀ (n : Nat) (z5_49 : Int32) (w19 : Nat → Int32) (e19 : Nat → Nat → Int32) (v19 : Nat → Int32) (f19 : Nat → Nat → Int32), cw_I K9 nn dn9 q9 w19 e19 → e19 15 = e 15 → cw_S v19 f19 → (x1.toInt ≤ z5_49.toInt ∧ z5_49.toInt ≤ x2.toInt + 1) → (w19 0).toInt = (w 0).toInt → (w19 1).toInt = (w 1).toInt → (w19 3).toInt = (w 3).toInt → 200 - z5_49.toInt < (n : Int) → J 49 [some (.ref (q9 0)), some (.int x1), some (.int x2), some (.int x3), some (.ref (q9 nn)), some (.int z5_49)] [] (cw A0 g K9 nn dn9 q9 w19 e19 v19 f19) 4 485 := by
        intro n
        induction n with
        | zero =>
          intro z5_49 w19 e19 v19 f19 hI19 hx19 hs19 j0_49 j1_49 j2_49 j3_49 j4_49
          omega
        | succ n ih21 =>
          intro z5_49 w19 e19 v19 f19 hI19 hx19 hs19 j0_49 j1_49 j2_49 j3_49 j4_49
          have hu22 := hI19.2.1
          unfold cw_W at hu22
          have zs23 := cw_sz hI19 rn9
          have zs24 := cw_sz hI19 ro9
          refine hC.1 3 49 _ _ rfl _ _ _ _ _ ?_
          refine And.intro (fun c25 => ?_) (fun c25 => ?_)
          · skip
            refine hC.1 4 71 _ _ rfl _ _ _ _ _ ?_
            refine Exists.intro _ (And.intro (cw_o0 hI19.1) ?_)
            intro m26 em_77
            try have e26 : m26.toInt = (x2).toInt + (1) := by rw [em_77]; exact pm_addc _ _ (1) rfl (by omega) (by omega)
            refine Exists.intro _ (And.intro (cw_ro_o hI19.1 rn9) ?_)
            have z27 := cw_sz hI19 rn9
            intro m28 em_84
            try have e28 : m28.toInt = ((w19 nn)).toInt - (1) := by rw [em_84]; exact pm_subc _ _ (1) rfl (by omega) (by omega)
            refine And.intro (Exists.intro _ (cw_o1 hI19.1)) (Exists.intro _ (Exists.intro _ (Exists.intro _ (Exists.intro _ (And.intro (c_X9_keep hI19 hs19 m26 m28 ) (And.intro rfl (fun r9 A9 h9 => ?_)))))))
            rcases h9 with ⟨w30, e30, v30, f30, rfl, hI30, hs30, hy30, rfl, by29⟩
            have hx30 : e30 15 = e 15 := hy30.trans hx19
            have hu31 := hI30.2.1
            unfold cw_W at hu31
            have zs32 := cw_sz hI30 rn9
            have zs33 := cw_sz hI30 ro9
            refine Exists.intro _ (And.intro (cw_o0 hI30.1) ?_)
            refine And.intro (Exists.intro _ (cw_o1 hI30.1)) (Exists.intro _ (Exists.intro _ (Exists.intro _ (Exists.intro _ (And.intro (c_X9_finish hI30 hs30  (by omega) (by omega)) (And.intro rfl (fun r9 A9 h9 => ?_)))))))
            rcases h9 with ⟨w35, e35, v35, f35, rfl, hI35, hs35, hy35, y34, rfl, by34⟩
            have hx35 : e35 15 = e 15 := hy35.trans hx30
            have hu36 := hI35.2.1
            unfold cw_W at hu36
            have zs37 := cw_sz hI35 ro9
            have zs38 := cw_sz hI35 ro9
            exact ⟨rfl, fun e9 => absurd e9 (by decide), rfl, K9, dn9, dn9, q9, w35, e35, v35, f35, rfl, hI35, hs35, hX9, hx35, y34, rfl, by first | trivial | omega | (dsimp only; omega)⟩
          · skip
            refine Exists.intro _ (And.intro (cw_o0 hI19.1) ?_)
            refine And.intro (Exists.intro _ (cw_o1 hI19.1)) (Exists.intro _ (Exists.intro _ (Exists.intro _ (Exists.intro _ (And.intro (c_X9_keepAs hI19 hs19 z5_49 x3 (by omega)) (And.intro rfl (fun r9 A9 h9 => ?_)))))))
            rcases h9 with ⟨w40, e40, v40, f40, rfl, hI40, hs40, hy40, rfl, by39⟩
            have hx40 : e40 15 = e 15 := hy40.trans hx19
            have hu41 := hI40.2.1
            unfold cw_W at hu41
            have zs42 := cw_sz hI40 rn9
            have zs43 := cw_sz hI40 ro9
            intro m44 em_65
            try have e44 : m44.toInt = (z5_49).toInt + (1) := by rw [em_65]; exact pm_addc _ _ (1) rfl (by omega) (by omega)
            exact ih21 m44 w40 e40 v40 f40 hI40 hx40 hs40 (by omega) (by omega) (by omega) (by omega) (by omega)
      exact lp20 (200 - x1.toInt).toNat.succ x1 w15 e15 v15 f15 hI15 hx15 hs15 (by omega) (by omega) (by omega) (by omega) (by omega)
    · skip
      have k0 : (0 : Int32).toInt = 0 := rfl
      refine And.intro (fun c9 => absurd c9 (by decide)) (fun _ => ?_)
      refine hC.1 1 26 _ _ rfl _ _ _ _ _ ?_
      have km1 : (-1 : Int32).toInt = -1 := rfl
      exact ⟨rfl, fun e9 => absurd e9 (by decide), rfl, K, nn, dn, q, w, e, v, f, rfl, hI, hs, cw_X_r, rfl, (-1 : Int32), rfl, by first | trivial | omega | (dsimp only; omega)⟩
  · skip
    have k0 : (0 : Int32).toInt = 0 := rfl
    refine And.intro (fun _ => ?_) (fun c9 => absurd c9 (by decide))
    refine hC.1 1 26 _ _ rfl _ _ _ _ _ ?_
    have km1 : (-1 : Int32).toInt = -1 := rfl
    exact ⟨rfl, fun e9 => absurd e9 (by decide), rfl, K, nn, dn, q, w, e, v, f, rfl, hI, hs, cw_X_r, rfl, (-1 : Int32), rfl, by first | trivial | omega | (dsimp only; omega)⟩

set_option maxRecDepth 100000 in
set_option maxHeartbeats 2000000 in
theorem c_X10_put (hI : cw_I K nn dn q w e) (hs : cw_S v f) (x1 : Int32) (x2 : Int32) (p0 : (w 0).toInt < 100000) : pm_Mt l g 12 5 4 485 [.ref (q 0), .int x1, .int x2] (cw A0 g K nn dn q w e v f) (cw_Qb A0 g K nn q (fun r K2 nn2 dn2 w2 e2 => e2 15 = e 15 ∧ (∃ x : Int32, r = some (.int x) ∧ ((w2 0).toInt ≤ (w 0).toInt + 1 ∧ (w 0).toInt ≤ (w2 0).toInt)))) := by
  refine mt_X10_put rfl (fun J hC => ?_)
  have ro_nn : cw_ro K nn := hI.2.1.2.1
  have ro_dn : cw_ro K dn := hI.2.1.2.2.1
  have hu1 := hI.2.1
  unfold cw_W at hu1
  have zs2 := cw_sz hI ro_nn
  have zs3 := cw_sz hI ro_dn
  have rg_x1 := pm_rng x1
  have rg_x2 := pm_rng x2
  refine hC.1 0 0 _ _ rfl _ _ _ _ _ ?_
  refine And.intro (Exists.intro _ (cw_o0 hI.1)) (Exists.intro _ (Exists.intro _ (Exists.intro _ (Exists.intro _ (And.intro (c_X10_paint hI hs x1 x1 x2 (by omega)) (And.intro rfl (fun r9 A9 h9 => ?_)))))))
  obtain ⟨K5, nn5, dn5, q5, w5, e5, v5, f5, rfl, hI5, hs5, hX5, hy5, y4, rfl, by4⟩ := h9
  have hq5_0 : q 0 = q5 0 := (hX5.2.1 0 (by omega)).symm
  rw [hq5_0]
  have hx5 : e5 15 = e 15 := hy5.trans rfl
  have hu6 := hI5.2.1
  unfold cw_W at hu6
  exact ⟨rfl, fun e9 => absurd e9 (by decide), rfl, K5, nn5, dn5, q5, w5, e5, v5, f5, rfl, hI5, hs5, hX5, hx5, y4, rfl, by first | trivial | omega | (dsimp only; omega)⟩

end
