section
variable {l : Launch} {g : pm_G} {A0 : pm_H} {K nn dn : Nat} {q : Nat → Nat} {w : Nat → Int32} {e : Nat → Nat → Int32} {v : Nat → Int32} {f : Nat → Nat → Int32}
set_option maxRecDepth 100000 in
set_option maxHeartbeats 2000000 in
theorem F_X1_clearPair (hI : cw_I K nn dn q w e) (hs : cw_S v f)   : pm_Mt l g 82 0 0 0 [.ref (q 4)] (cw A0 g K nn dn q w e v f) (cw_Qs A0 g K nn dn q w e (fun r v2 f2 => r = none ∧ ((True) ∧ (v2 5 = -1 ∧ v2 6 = -1)))) := by
  refine mt_X1_clearPair rfl (fun J hC => ?_)
  have ro_nn : cw_ro K nn := hI.2.1.2.1
  have ro_dn : cw_ro K dn := hI.2.1.2.2.1
  have hu1 := hI.2.1
  unfold cw_W at hu1
  refine hC.1 0 0 _ _ rfl _ _ _ _ _ ?_
  have km1 : (-1 : Int32).toInt = -1 := rfl
  refine Exists.intro _ (And.intro (cw_o4 hI.1) (And.intro rfl ?_))
  rw [cw_p_pairDistance hI.1]
  obtain ⟨v2, ev2⟩ : ∃ z9, z9 = upd v 5 (-1 : Int32) := ⟨_, rfl⟩
  rw [← ev2]
  have hs2 : cw_S v2 f := by rw [ev2]; exact cw_S_v hs 5 _ (by decide)
  have ev2_0 : (v2 0).toInt = (v 0).toInt := by rw [ev2]; rfl
  have pv_2 := ev2
  refine Exists.intro _ (And.intro (cw_o4 hI.1) (And.intro rfl ?_))
  rw [cw_p_pairFirst hI.1]
  obtain ⟨v3, ev3⟩ : ∃ z9, z9 = upd v2 6 (-1 : Int32) := ⟨_, rfl⟩
  rw [← ev3]
  have hs3 : cw_S v3 f := by rw [ev3]; exact cw_S_v hs2 6 _ (by decide)
  have ev3_0 : (v3 0).toInt = (v2 0).toInt := by rw [ev3]; rfl
  have pv_7 := ev3
  exact ⟨rfl, rfl, v3, f, rfl, hs3, rfl, by first | trivial | omega | (dsimp only; omega), by exact ⟨by rw [pv_7, pk_un (by decide), pv_2, pk_us], by rw [pv_7, pk_us]⟩⟩

set_option maxRecDepth 100000 in
set_option maxHeartbeats 2000000 in
theorem F_X1_offerPair (hI : cw_I K nn dn q w e) (hs : cw_S v f) (x1 : Int32) (x2 : Int32) (p0 : -1 ≤ x1.toInt ∧ x1.toInt < x2.toInt ∧ x2.toInt ≤ 160) : pm_Mt l g 83 0 0 0 [.ref (q 4), .int x1, .int x2] (cw A0 g K nn dn q w e v f) (cw_Qs A0 g K nn dn q w e (fun r v2 f2 => r = none ∧ ((True) ∧ ((((v 5).toInt = -1 ∨ x2.toInt - x1.toInt < (v 5).toInt) ∧ (v2 5).toInt = x2.toInt - x1.toInt ∧ (v2 6).toInt = x1.toInt) ∨ (¬ ((v 5).toInt = -1 ∨ x2.toInt - x1.toInt < (v 5).toInt) ∧ v2 = v))))) := by
  refine mt_X1_offerPair rfl (fun J hC => ?_)
  have ro_nn : cw_ro K nn := hI.2.1.2.1
  have ro_dn : cw_ro K dn := hI.2.1.2.2.1
  have hu1 := hI.2.1
  unfold cw_W at hu1
  have rg_x1 := pm_rng x1
  have rg_x2 := pm_rng x2
  refine hC.1 0 0 _ _ rfl _ _ _ _ _ ?_
  refine Exists.intro _ (And.intro (cw_o4 hI.1) ?_)
  have km1 : (-1 : Int32).toInt = -1 := rfl
  refine And.intro (fun c2 => ?_) (fun c2 => ?_)
  · skip
    have dc2 : ((v 5)).toInt = ((-1 : Int32) : Int32).toInt := congrArg Int32.toInt c2
    refine hC.1 1 18 _ _ rfl _ _ _ _ _ ?_
    intro m3 em_21
    try have e3 : m3.toInt = (x2).toInt - (x1).toInt := by rw [em_21]; exact pm_sub _ _ (by omega) (by omega)
    refine Exists.intro _ (And.intro (cw_o4 hI.1) (And.intro rfl ?_))
    rw [cw_p_pairDistance hI.1]
    obtain ⟨v4, ev4⟩ : ∃ z9, z9 = upd v 5 m3 := ⟨_, rfl⟩
    rw [← ev4]
    have hs4 : cw_S v4 f := by rw [ev4]; exact cw_S_v hs 5 _ (by decide)
    have ev4_0 : (v4 0).toInt = (v 0).toInt := by rw [ev4]; rfl
    have pv_22 := ev4
    refine Exists.intro _ (And.intro (cw_o4 hI.1) (And.intro rfl ?_))
    rw [cw_p_pairFirst hI.1]
    obtain ⟨v5, ev5⟩ : ∃ z9, z9 = upd v4 6 x1 := ⟨_, rfl⟩
    rw [← ev5]
    have hs5 : cw_S v5 f := by rw [ev5]; exact cw_S_v hs4 6 _ (by decide)
    have ev5_0 : (v5 0).toInt = (v4 0).toInt := by rw [ev5]; rfl
    have pv_27 := ev5
    refine hC.1 2 30 _ _ rfl _ _ _ _ _ ?_
    exact ⟨rfl, rfl, v5, f, rfl, hs5, rfl, by first | trivial | omega | (dsimp only; omega), by first | (exact Or.inr ⟨by omega, rfl⟩) | (exact Or.inl ⟨by omega, by rw [pv_27, pk_un (by decide), pv_22, pk_us]; omega, by rw [pv_27, pk_us]⟩)⟩
  · skip
    have dc2 := pm_neI c2
    intro m6 em_10
    try have e6 : m6.toInt = (x2).toInt - (x1).toInt := by rw [em_10]; exact pm_sub _ _ (by omega) (by omega)
    refine Exists.intro _ (And.intro (cw_o4 hI.1) ?_)
    refine And.intro (fun c7 => ?_) (fun c7 => ?_)
    · skip
      refine hC.1 2 30 _ _ rfl _ _ _ _ _ ?_
      exact ⟨rfl, rfl, v, f, rfl, hs, rfl, by first | trivial | omega | (dsimp only; omega), by first | (exact Or.inr ⟨by omega, rfl⟩) | (exact Or.inl ⟨by omega, by rw [pv_27, pk_un (by decide), pv_22, pk_us]; omega, by rw [pv_27, pk_us]⟩)⟩
    · skip
      refine hC.1 1 18 _ _ rfl _ _ _ _ _ ?_
      intro m8 em_21
      try have e8 : m8.toInt = (x2).toInt - (x1).toInt := by rw [em_21]; exact pm_sub _ _ (by omega) (by omega)
      refine Exists.intro _ (And.intro (cw_o4 hI.1) (And.intro rfl ?_))
      rw [cw_p_pairDistance hI.1]
      obtain ⟨v9, ev9⟩ : ∃ z9, z9 = upd v 5 m8 := ⟨_, rfl⟩
      rw [← ev9]
      have hs9 : cw_S v9 f := by rw [ev9]; exact cw_S_v hs 5 _ (by decide)
      have ev9_0 : (v9 0).toInt = (v 0).toInt := by rw [ev9]; rfl
      have pv_22 := ev9
      refine Exists.intro _ (And.intro (cw_o4 hI.1) (And.intro rfl ?_))
      rw [cw_p_pairFirst hI.1]
      obtain ⟨v10, ev10⟩ : ∃ z9, z9 = upd v9 6 x1 := ⟨_, rfl⟩
      rw [← ev10]
      have hs10 : cw_S v10 f := by rw [ev10]; exact cw_S_v hs9 6 _ (by decide)
      have ev10_0 : (v10 0).toInt = (v9 0).toInt := by rw [ev10]; rfl
      have pv_27 := ev10
      refine hC.1 2 30 _ _ rfl _ _ _ _ _ ?_
      exact ⟨rfl, rfl, v10, f, rfl, hs10, rfl, by first | trivial | omega | (dsimp only; omega), by first | (exact Or.inr ⟨by omega, rfl⟩) | (exact Or.inl ⟨by omega, by rw [pv_27, pk_un (by decide), pv_22, pk_us]; omega, by rw [pv_27, pk_us]⟩)⟩

set_option maxRecDepth 100000 in
set_option maxHeartbeats 2000000 in
theorem F_X1_pairFound (hI : cw_I K nn dn q w e) (hs : cw_S v f) (x1 : Int32)  : pm_Mt l g 84 0 0 0 [.ref (q 4), .int x1] (cw A0 g K nn dn q w e v f) (md_Qp (cw A0 g K nn dn q w e v f) (fun r => r.toInt = if x1.toInt = 0 then (v 5).toInt else if x1.toInt = 1 then (v 6).toInt else -1)) := by
  refine mt_X1_pairFound rfl (fun J hC => ?_)
  have ro_nn : cw_ro K nn := hI.2.1.2.1
  have ro_dn : cw_ro K dn := hI.2.1.2.2.1
  have hu1 := hI.2.1
  unfold cw_W at hu1
  have rg_x1 := pm_rng x1
  refine hC.1 0 0 _ _ rfl _ _ _ _ _ ?_
  refine And.intro (fun c2 => ?_) (fun c2 => ?_)
  · skip
    have dc2 := pm_neI c2
    have k0 : (0 : Int32).toInt = 0 := rfl
    refine hC.1 1 11 _ _ rfl _ _ _ _ _ ?_
    have k1 : (1 : Int32).toInt = 1 := rfl
    refine And.intro (fun c3 => ?_) (fun c3 => ?_)
    · skip
      have dc3 := pm_neI c3
      refine hC.1 2 23 _ _ rfl _ _ _ _ _ ?_
      have km1 : (-1 : Int32).toInt = -1 := rfl
      refine hC.1 3 24 _ _ rfl _ _ _ _ _ ?_
      exact ⟨rfl, fun e9 => absurd e9 (by decide), rfl, (-1 : Int32), rfl, rfl, by first | (rw [if_pos (by omega)]) | (rw [if_neg (by omega), if_pos (by omega)]) | (rw [if_neg (by omega), if_neg (by omega)]; rfl)⟩
    · skip
      have dc3 : (x1).toInt = ((1 : Int32) : Int32).toInt := congrArg Int32.toInt c3
      refine Exists.intro _ (And.intro (cw_o4 hI.1) ?_)
      refine hC.1 3 24 _ _ rfl _ _ _ _ _ ?_
      exact ⟨rfl, fun e9 => absurd e9 (by decide), rfl, (v 6), rfl, rfl, by first | (rw [if_pos (by omega)]) | (rw [if_neg (by omega), if_pos (by omega)]) | (rw [if_neg (by omega), if_neg (by omega)]; rfl)⟩
  · skip
    have dc2 : (x1).toInt = (0 : Int32).toInt := congrArg Int32.toInt c2
    have k0 : (0 : Int32).toInt = 0 := rfl
    refine Exists.intro _ (And.intro (cw_o4 hI.1) ?_)
    refine hC.1 3 24 _ _ rfl _ _ _ _ _ ?_
    exact ⟨rfl, fun e9 => absurd e9 (by decide), rfl, (v 5), rfl, rfl, by first | (rw [if_pos (by omega)]) | (rw [if_neg (by omega), if_pos (by omega)]) | (rw [if_neg (by omega), if_neg (by omega)]; rfl)⟩

set_option maxRecDepth 100000 in
set_option maxHeartbeats 2000000 in
theorem F_X1_findNearestAlike (hI : cw_I K nn dn q w e) (hs : cw_S v f) {o1 : Nat} (ho1 : cw_ro K o1) (x2 : Int32) (x3 : Int32) (p0 : 0 ≤ x2.toInt ∧ x2.toInt ≤ x3.toInt ∧ x3.toInt < (w o1).toInt) (p1 : bd (w o1) (e (o1 + 1)) (e (o1 + 3))) : pm_Mt l g 81 1 0 0 [.ref (q 4), .ref (q o1), .int x2, .int x3] (cw A0 g K nn dn q w e v f) (cw_Qs A0 g K nn dn q w e (fun r v2 f2 => r = none ∧ ((True) ∧ ((v2 5).toInt = (CL (e (o1 + 1)) x2.toInt (x3.toInt + 1 - x2.toInt).toNat).1 ∧ (v2 6).toInt = (CL (e (o1 + 1)) x2.toInt (x3.toInt + 1 - x2.toInt).toNat).2)))) := by
  refine mt_X1_findNearestAlike rfl (fun J hC => ?_)
  have ro_nn : cw_ro K nn := hI.2.1.2.1
  have ro_dn : cw_ro K dn := hI.2.1.2.2.1
  have hu1 := hI.2.1
  unfold cw_W at hu1
  have rg_x2 := pm_rng x2
  have rg_x3 := pm_rng x3
  have zz0 := cw_sz hI ho1
  refine hC.1 0 0 _ _ rfl _ _ _ _ _ ?_
  refine And.intro (Exists.intro _ (cw_o4 hI.1)) (Exists.intro _ (Exists.intro _ (Exists.intro _ (Exists.intro _ (And.intro (F_X1_clearPair hI hs  ) (And.intro rfl (fun r9 A9 h9 => ?_)))))))
  rcases h9 with ⟨v3, f3, rfl, hs3, rfl, by2⟩
  have hc9 := by2.2
  have lp5 : ∀ (n : Nat) (z4_7 : Int32) (v4 : Nat → Int32) (f4 : Nat → Nat → Int32), cw_S v4 f4 → (x2.toInt ≤ z4_7.toInt ∧ z4_7.toInt ≤ x3.toInt + 1) → ((v4 5).toInt = (CL (e (o1 + 1)) x2.toInt (z4_7.toInt - x2.toInt).toNat).1 ∧ (v4 6).toInt = (CL (e (o1 + 1)) x2.toInt (z4_7.toInt - x2.toInt).toNat).2) → 200 - z4_7.toInt < (n : Int) → J 7 [some (.ref (q 4)), some (.ref (q o1)), some (.int x2), some (.int x3), some (.int z4_7)] [] (cw A0 g K nn dn q w e v4 f4) 0 0 := by
    intro n
    induction n with
    | zero =>
      intro z4_7 v4 f4 hs4 j0_7 j1_7 j2_7
      omega
    | succ n ih6 =>
      intro z4_7 v4 f4 hs4 j0_7 j1_7 j2_7
      refine hC.1 1 7 _ _ rfl _ _ _ _ _ ?_
      refine And.intro (fun c7 => ?_) (fun c7 => ?_)
      · skip
        refine hC.1 3 43 _ _ rfl _ _ _ _ _ ?_
        exact ⟨rfl, rfl, v4, f4, rfl, hs4, rfl, by first | trivial | omega | (dsimp only; omega), by rw [show (x3.toInt + 1 - x2.toInt).toNat = (z4_7.toInt - x2.toInt).toNat by omega]; exact j1_7⟩
      · skip
        have ba9 := p1 z4_7.toInt.toNat (by omega)
        have lt9 := lastEq_lt (e (o1 + 1)) (e (o1 + 1) z4_7.toInt.toNat) z4_7.toInt.toNat
        refine Exists.intro _ (And.intro (cw_ro_o hI.1 ho1) ?_)
        refine Exists.intro _ (Exists.intro _ (And.intro (Or.inl (cw_ro_3 hI.1 ho1)) (And.intro (by omega) ?_)))
        have w8 := cw_ahd hI ho1 (z4_7).toInt.toNat
        refine And.intro (fun c9 => ?_) (fun c9 => ?_)
        · skip
          refine hC.1 2 37 _ _ rfl _ _ _ _ _ ?_
          have k1 : (1 : Int32).toInt = 1 := rfl
          intro m10 em_37
          try have e10 : m10.toInt = (z4_7).toInt + (1) := by rw [em_37]; exact pm_addc _ _ (1) rfl (by omega) (by omega)
          exact ih6 m10 v4 f4 hs4 (by omega) (by rw [show (m10.toInt - x2.toInt).toNat = (z4_7.toInt + 1 - x2.toInt).toNat by omega]; first | (rw [CL_n (by omega) ba9 (by omega)]; exact j1_7) | (rcases ho9 with ⟨h9, h8, h7⟩ | ⟨h9, h8⟩; (rw [CL_y (by omega) ba9 (by omega)]; exact ⟨by show _ = _ - _; omega, by show _ = _; omega⟩); (rw [CL_n (by omega) ba9 (by omega), h8]; exact j1_7))) (by omega)
        · skip
          refine Exists.intro _ (And.intro (cw_ro_o hI.1 ho1) ?_)
          refine Exists.intro _ (Exists.intro _ (And.intro (Or.inl (cw_ro_3 hI.1 ho1)) (And.intro (by omega) ?_)))
          have w11 := cw_ahd hI ho1 (z4_7).toInt.toNat
          refine And.intro (Exists.intro _ (cw_o4 hI.1)) (Exists.intro _ (Exists.intro _ (Exists.intro _ (Exists.intro _ (And.intro (F_X1_offerPair hI hs4 (e (o1 + 3) (z4_7).toInt.toNat) z4_7 (by omega)) (And.intro rfl (fun r9 A9 h9 => ?_)))))))
          rcases h9 with ⟨v13, f13, rfl, hs13, rfl, by12⟩
          have ho9 := by12.2
          refine hC.1 2 37 _ _ rfl _ _ _ _ _ ?_
          have k1 : (1 : Int32).toInt = 1 := rfl
          intro m14 em_37
          try have e14 : m14.toInt = (z4_7).toInt + (1) := by rw [em_37]; exact pm_addc _ _ (1) rfl (by omega) (by omega)
          exact ih6 m14 v13 f13 hs13 (by omega) (by rw [show (m14.toInt - x2.toInt).toNat = (z4_7.toInt + 1 - x2.toInt).toNat by omega]; first | (rw [CL_n (by omega) ba9 (by omega)]; exact j1_7) | (rcases ho9 with ⟨h9, h8, h7⟩ | ⟨h9, h8⟩; (rw [CL_y (by omega) ba9 (by omega)]; exact ⟨by show _ = _ - _; omega, by show _ = _; omega⟩); (rw [CL_n (by omega) ba9 (by omega), h8]; exact j1_7))) (by omega)
  exact lp5 (200 - x2.toInt).toNat.succ x2 v3 f3 hs3 (by omega) (by rw [show (x2.toInt - x2.toInt).toNat = 0 by omega, hc9.1, hc9.2]; exact ⟨rfl, rfl⟩) (by omega)

set_option maxRecDepth 100000 in
set_option maxHeartbeats 2000000 in
theorem F_X10_close (hI : cw_I K nn dn q w e) (hs : cw_S v f) (x1 : Int32) (x2 : Int32) (x3 : Int32) (p0 : bd (w nn) (e (nn + 1)) (e (nn + 3))) : pm_Mt l g 80 2 0 0 [.ref (q 0), .int x1, .int x2, .int x3] (cw A0 g K nn dn q w e v f) (cw_Qs A0 g K nn dn q w e (fun r v2 f2 => ∃ x : Int32, r = some (.int x) ∧ ((True) ∧ (x.toInt = CS (e (nn + 1)) (w nn).toInt x1.toInt x2.toInt x3.toInt)))) := by
  refine mt_X10_close rfl (fun J hC => ?_)
  have ro_nn : cw_ro K nn := hI.2.1.2.1
  have ro_dn : cw_ro K dn := hI.2.1.2.2.1
  have hu1 := hI.2.1
  unfold cw_W at hu1
  have rg_x1 := pm_rng x1
  have rg_x2 := pm_rng x2
  have rg_x3 := pm_rng x3
  have zz0 := cw_sz hI ro_nn
  refine hC.1 0 0 _ _ rfl _ _ _ _ _ ?_
  refine Exists.intro _ (And.intro (cw_o0 hI.1) ?_)
  refine Exists.intro _ (And.intro (cw_o1 hI.1) ?_)
  refine And.intro (Exists.intro _ (cw_ro_o hI.1 ro_nn)) (Exists.intro _ (Exists.intro _ (Exists.intro _ (Exists.intro _ (And.intro (c_X7_isSpan hI hs ro_nn x1 x2 ) (And.intro rfl (fun r9 A9 h9 => ?_)))))))
  rcases h9 with ⟨y2, rfl, rfl, ⟨rfl, by2⟩ | ⟨rfl, by2⟩⟩
  · skip
    have k1 : (1 : Int32).toInt = 1 := rfl
    refine And.intro (fun _ => ?_) (fun c9 => absurd c9 (by decide))
    refine hC.1 1 21 _ _ rfl _ _ _ _ _ ?_
    refine Exists.intro _ (And.intro (cw_o0 hI.1) ?_)
    refine And.intro (Exists.intro _ (cw_o4 hI.1)) (Exists.intro _ (Exists.intro _ (Exists.intro _ (Exists.intro _ (And.intro (F_X1_findNearestAlike hI hs ro_nn x1 x2 (by omega) (by exact p0)) (And.intro rfl (fun r9 A9 h9 => ?_)))))))
    rcases h9 with ⟨v5, f5, rfl, hs5, rfl, by4⟩
    have hf9 := by4.2
    refine Exists.intro _ (And.intro (cw_o0 hI.1) ?_)
    refine And.intro (Exists.intro _ (cw_o4 hI.1)) (Exists.intro _ (Exists.intro _ (Exists.intro _ (Exists.intro _ (And.intro (F_X1_pairFound hI hs5 x3 ) (And.intro rfl (fun r9 A9 h9 => ?_)))))))
    obtain ⟨y6, rfl, rfl, by6⟩ := h9
    have hp9 := by6
    exact ⟨rfl, fun e9 => absurd e9 (by decide), rfl, v5, f5, rfl, hs5, y6, rfl, by first | trivial | omega | (dsimp only; omega), by by_cases t0 : x3.toInt = 0; (rw [hp9, if_pos t0, CS_0 (by omega) t0]; exact hf9.1); (by_cases t1 : x3.toInt = 1; (rw [hp9, if_neg t0, if_pos t1, CS_1 (by omega) t1]; exact hf9.2); (rw [hp9, if_neg t0, if_neg t1, CS_o (by omega)]))⟩
  · skip
    have k0 : (0 : Int32).toInt = 0 := rfl
    refine And.intro (fun c9 => absurd c9 (by decide)) (fun _ => ?_)
    have km1 : (-1 : Int32).toInt = -1 := rfl
    exact ⟨rfl, fun e9 => absurd e9 (by decide), rfl, v, f, rfl, hs, (-1 : Int32), rfl, by first | trivial | omega | (dsimp only; omega), by exact (CS_o (by omega)).symm⟩

end
