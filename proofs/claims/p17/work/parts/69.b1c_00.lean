section
variable {l : Launch} {g : pm_G} {A0 : pm_H} {K nn dn : Nat} {q : Nat → Nat} {w : Nat → Int32} {e : Nat → Nat → Int32} {v : Nat → Int32} {f : Nat → Nat → Int32}
set_option maxRecDepth 100000 in
set_option maxHeartbeats 2000000 in
theorem F_X7_howMany (hI : cw_I K nn dn q w e) (hs : cw_S v f) {o0 : Nat} (ho0 : cw_ro K o0) (x1 : Int32)  : pm_Mt l g 48 0 0 0 [.ref (q o0), .int x1] (cw A0 g K nn dn q w e v f) (md_Qp (cw A0 g K nn dn q w e v f) (fun r => r.toInt = (cn (e (o0 + 1)) x1 (w o0).toInt.toNat : Int))) := by
  refine mt_X7_howMany rfl (fun J hC => ?_)
  have ro_nn : cw_ro K nn := hI.2.1.2.1
  have ro_dn : cw_ro K dn := hI.2.1.2.2.1
  have hu1 := hI.2.1
  unfold cw_W at hu1
  have rg_x1 := pm_rng x1
  have zz0 := cw_sz hI ho0
  refine hC.1 0 0 _ _ rfl _ _ _ _ _ ?_
  have k0 : (0 : Int32).toInt = 0 := rfl
  have lp3 : ∀ (n : Nat) (z2_4 : Int32) (z3_4 : Int32), (0 ≤ z3_4.toInt ∧ z3_4.toInt ≤ (w o0).toInt) → (z2_4.toInt = (cn (e (o0 + 1)) x1 z3_4.toInt.toNat : Int)) → 200 - z3_4.toInt < (n : Int) → J 4 [some (.ref (q o0)), some (.int x1), some (.int z2_4), some (.int z3_4)] [] (cw A0 g K nn dn q w e v f) 0 0 := by
    intro n
    induction n with
    | zero =>
      intro z2_4 z3_4 j0_4 j1_4 j2_4
      omega
    | succ n ih4 =>
      intro z2_4 z3_4 j0_4 j1_4 j2_4
      have cl9 := cn_le (e (o0 + 1)) x1 z3_4.toInt.toNat
      refine hC.1 1 4 _ _ rfl _ _ _ _ _ ?_
      refine Exists.intro _ (And.intro (cw_ro_o hI.1 ho0) ?_)
      have z5 := cw_sz hI ho0
      refine And.intro (fun c6 => ?_) (fun c6 => ?_)
      · skip
        refine hC.1 3 31 _ _ rfl _ _ _ _ _ ?_
        exact ⟨rfl, fun e9 => absurd e9 (by decide), rfl, z2_4, rfl, rfl, by refine Eq.trans j1_4 ?_; rw [show z3_4.toInt.toNat = (w o0).toInt.toNat by omega]⟩
      · skip
        refine Exists.intro _ (And.intro (cw_ro_o hI.1 ho0) ?_)
        refine Exists.intro _ (Exists.intro _ (And.intro (Or.inl (cw_ro_1 hI.1 ho0)) (And.intro (by omega) ?_)))
        have w7 := cw_col hI ho0 (z3_4).toInt.toNat
        refine And.intro (fun c8 => ?_) (fun c8 => ?_)
        · skip
          have dc8 := pm_neI c8
          refine hC.1 2 25 _ _ rfl _ _ _ _ _ ?_
          have k1 : (1 : Int32).toInt = 1 := rfl
          intro m9 em_25
          try have e9 : m9.toInt = (z3_4).toInt + (1) := by rw [em_25]; exact pm_addc _ _ (1) rfl (by omega) (by omega)
          exact ih4 z2_4 m9 (by omega) (by rw [show m9.toInt.toNat = z3_4.toInt.toNat + 1 by omega]; first | (rw [cn_n (by assumption)]; omega) | (rw [cn_y (by assumption)]; omega)) (by omega)
        · skip
          have dc8 : ((e (o0 + 1) (z3_4).toInt.toNat)).toInt = (x1 : Int32).toInt := congrArg Int32.toInt c8
          have k1 : (1 : Int32).toInt = 1 := rfl
          intro m10 em_22
          try have e10 : m10.toInt = (z2_4).toInt + (1) := by rw [em_22]; exact pm_addc _ _ (1) rfl (by omega) (by omega)
          refine hC.1 2 25 _ _ rfl _ _ _ _ _ ?_
          intro m11 em_25
          try have e11 : m11.toInt = (z3_4).toInt + (1) := by rw [em_25]; exact pm_addc _ _ (1) rfl (by omega) (by omega)
          exact ih4 m10 m11 (by omega) (by rw [show m11.toInt.toNat = z3_4.toInt.toNat + 1 by omega]; first | (rw [cn_n (by assumption)]; omega) | (rw [cn_y (by assumption)]; omega)) (by omega)
  exact lp3 (200 - (0 : Int32).toInt).toNat.succ (0 : Int32) (0 : Int32) (by omega) (by rfl) (by omega)

set_option maxRecDepth 100000 in
set_option maxHeartbeats 2000000 in
theorem F_X7_widestGap (hI : cw_I K nn dn q w e) (hs : cw_S v f) {o0 : Nat} (ho0 : cw_ro K o0) (x1 : Int32) (p0 : bd (w o0) (e (o0 + 1)) (e (o0 + 3))) : pm_Mt l g 50 1 0 0 [.ref (q o0), .int x1] (cw A0 g K nn dn q w e v f) (md_Qp (cw A0 g K nn dn q w e v f) (fun r => r.toInt = wd (e (o0 + 1)) x1 (w o0).toInt.toNat)) := by
  refine mt_X7_widestGap rfl (fun J hC => ?_)
  have ro_nn : cw_ro K nn := hI.2.1.2.1
  have ro_dn : cw_ro K dn := hI.2.1.2.2.1
  have hu1 := hI.2.1
  unfold cw_W at hu1
  have rg_x1 := pm_rng x1
  have zz0 := cw_sz hI ho0
  refine hC.1 0 0 _ _ rfl _ _ _ _ _ ?_
  have km1 : (-1 : Int32).toInt = -1 := rfl
  have k0 : (0 : Int32).toInt = 0 := rfl
  have lp3 : ∀ (n : Nat) (z2_4 : Int32) (z3_4 : Int32), (0 ≤ z3_4.toInt ∧ z3_4.toInt ≤ (w o0).toInt) → (z2_4.toInt = wd (e (o0 + 1)) x1 z3_4.toInt.toNat) → 200 - z3_4.toInt < (n : Int) → J 4 [some (.ref (q o0)), some (.int x1), some (.int z2_4), some (.int z3_4)] [] (cw A0 g K nn dn q w e v f) 0 0 := by
    intro n
    induction n with
    | zero =>
      intro z2_4 z3_4 j0_4 j1_4 j2_4
      omega
    | succ n ih4 =>
      intro z2_4 z3_4 j0_4 j1_4 j2_4
      have wg9 := wd_ge (e (o0 + 1)) x1 z3_4.toInt.toNat
      have lt9 := lastEq_lt (e (o0 + 1)) ((e (o0 + 1)) z3_4.toInt.toNat) z3_4.toInt.toNat
      refine hC.1 1 4 _ _ rfl _ _ _ _ _ ?_
      refine Exists.intro _ (And.intro (cw_ro_o hI.1 ho0) ?_)
      have z5 := cw_sz hI ho0
      refine And.intro (fun c6 => ?_) (fun c6 => ?_)
      · skip
        refine hC.1 3 53 _ _ rfl _ _ _ _ _ ?_
        exact ⟨rfl, fun e9 => absurd e9 (by decide), rfl, z2_4, rfl, rfl, by refine Eq.trans j1_4 ?_; rw [show z3_4.toInt.toNat = (w o0).toInt.toNat by omega]⟩
      · skip
        refine Exists.intro _ (And.intro (cw_ro_o hI.1 ho0) ?_)
        refine Exists.intro _ (Exists.intro _ (And.intro (Or.inl (cw_ro_1 hI.1 ho0)) (And.intro (by omega) ?_)))
        have w7 := cw_col hI ho0 (z3_4).toInt.toNat
        refine And.intro (fun c8 => ?_) (fun c8 => ?_)
        · skip
          have dc8 := pm_neI c8
          refine hC.1 2 47 _ _ rfl _ _ _ _ _ ?_
          have k1 : (1 : Int32).toInt = 1 := rfl
          intro m9 em_47
          try have e9 : m9.toInt = (z3_4).toInt + (1) := by rw [em_47]; exact pm_addc _ _ (1) rfl (by omega) (by omega)
          exact ih4 z2_4 m9 (by omega) (by rw [show m9.toInt.toNat = z3_4.toInt.toNat + 1 by omega]; first | (rw [wd_n (by assumption)]; exact j1_4) | (rw [wd_s (c := (e (o0 + 1))) (x := x1) (k := z3_4.toInt.toNat) (by assumption) ba9]; split <;> omega)) (by omega)
        · skip
          have dc8 : ((e (o0 + 1) (z3_4).toInt.toNat)).toInt = (x1 : Int32).toInt := congrArg Int32.toInt c8
          have ba9 := p0 z3_4.toInt.toNat (by omega)
          refine Exists.intro _ (And.intro (cw_ro_o hI.1 ho0) ?_)
          refine Exists.intro _ (Exists.intro _ (And.intro (Or.inl (cw_ro_3 hI.1 ho0)) (And.intro (by omega) ?_)))
          have w10 := cw_ahd hI ho0 (z3_4).toInt.toNat
          refine And.intro (fun c11 => ?_) (fun c11 => ?_)
          · skip
            have dc11 : ((e (o0 + 3) (z3_4).toInt.toNat)).toInt = ((-1 : Int32) : Int32).toInt := congrArg Int32.toInt c11
            refine hC.1 2 47 _ _ rfl _ _ _ _ _ ?_
            have k1 : (1 : Int32).toInt = 1 := rfl
            intro m12 em_47
            try have e12 : m12.toInt = (z3_4).toInt + (1) := by rw [em_47]; exact pm_addc _ _ (1) rfl (by omega) (by omega)
            exact ih4 z2_4 m12 (by omega) (by rw [show m12.toInt.toNat = z3_4.toInt.toNat + 1 by omega]; first | (rw [wd_n (by assumption)]; exact j1_4) | (rw [wd_s (c := (e (o0 + 1))) (x := x1) (k := z3_4.toInt.toNat) (by assumption) ba9]; split <;> omega)) (by omega)
          · skip
            have dc11 := pm_neI c11
            refine Exists.intro _ (And.intro (cw_ro_o hI.1 ho0) ?_)
            refine Exists.intro _ (Exists.intro _ (And.intro (Or.inl (cw_ro_3 hI.1 ho0)) (And.intro (by omega) ?_)))
            have w13 := cw_ahd hI ho0 (z3_4).toInt.toNat
            intro m14 em_40
            try have e14 : m14.toInt = (z3_4).toInt - ((e (o0 + 3) (z3_4).toInt.toNat)).toInt := by rw [em_40]; exact pm_sub _ _ (by omega) (by omega)
            have k1 : (1 : Int32).toInt = 1 := rfl
            intro m15 em_42
            try have e15 : m15.toInt = (m14).toInt - (1) := by rw [em_42]; exact pm_subc _ _ (1) rfl (by omega) (by omega)
            refine Exists.intro _ (Exists.intro _ (Exists.intro _ (Exists.intro _ (And.intro (c_J9_max_7cf53 (cw A0 g K nn dn q w e v f) z2_4 m15 ) (And.intro rfl (fun r9 A9 h9 => ?_))))))
            obtain ⟨y16, rfl, rfl, by16⟩ := h9
            refine hC.1 2 47 _ _ rfl _ _ _ _ _ ?_
            intro m18 em_47
            try have e18 : m18.toInt = (z3_4).toInt + (1) := by rw [em_47]; exact pm_addc _ _ (1) rfl (by omega) (by omega)
            exact ih4 y16 m18 (by omega) (by rw [show m18.toInt.toNat = z3_4.toInt.toNat + 1 by omega]; first | (rw [wd_n (by assumption)]; exact j1_4) | (rw [wd_s (c := (e (o0 + 1))) (x := x1) (k := z3_4.toInt.toNat) (by assumption) ba9]; split <;> omega)) (by omega)
  exact lp3 (200 - (0 : Int32).toInt).toNat.succ (-1 : Int32) (0 : Int32) (by omega) (by rfl) (by omega)

set_option maxRecDepth 100000 in
set_option maxHeartbeats 2000000 in
theorem F_X10_colour (hI : cw_I K nn dn q w e) (hs : cw_S v f) (x1 : Int32) (x2 : Int32) (p0 : bd (w nn) (e (nn + 1)) (e (nn + 3))) : pm_Mt l g 47 2 0 0 [.ref (q 0), .int x1, .int x2] (cw A0 g K nn dn q w e v f) (md_Qp (cw A0 g K nn dn q w e v f) (fun r => r.toInt = CO (e (nn + 1)) (e 15) (w nn).toInt x1 x2.toInt)) := by
  refine mt_X10_colour rfl (fun J hC => ?_)
  have ro_nn : cw_ro K nn := hI.2.1.2.1
  have ro_dn : cw_ro K dn := hI.2.1.2.2.1
  have hu1 := hI.2.1
  unfold cw_W at hu1
  have rg_x1 := pm_rng x1
  have rg_x2 := pm_rng x2
  have zz0 := cw_sz hI ro_nn
  refine hC.1 0 0 _ _ rfl _ _ _ _ _ ?_
  refine Exists.intro _ (Exists.intro _ (Exists.intro _ (Exists.intro _ (And.intro (c_X10_isColour (cw A0 g K nn dn q w e v f) x1 ) (And.intro rfl (fun r9 A9 h9 => ?_))))))
  rcases h9 with ⟨y2, rfl, rfl, ⟨rfl, by2⟩ | ⟨rfl, by2⟩⟩
  · skip
    have k1 : (1 : Int32).toInt = 1 := rfl
    refine And.intro (fun _ => ?_) (fun c9 => absurd c9 (by decide))
    refine hC.1 1 9 _ _ rfl _ _ _ _ _ ?_
    refine Exists.intro _ (And.intro (cw_o0 hI.1) ?_)
    refine Exists.intro _ (And.intro (cw_o1 hI.1) ?_)
    refine pm_swc 5 rfl (by decide) ?_ ?_
    · intro _
      refine hC.1 7 94 _ _ rfl _ _ _ _ _ ?_
      have km1 : (-1 : Int32).toInt = -1 := rfl
      exact ⟨rfl, fun e9 => absurd e9 (by decide), rfl, (-1 : Int32), rfl, rfl, by exact (CO_d (by omega) (by omega)).symm⟩
    · intro i9 hi9 he9
      rcases (show i9 = 0 ∨ i9 = 1 ∨ i9 = 2 ∨ i9 = 3 ∨ i9 = 4 by omega) with rfl | rfl | rfl | rfl | rfl
      · skip
        refine hC.1 2 52 _ _ rfl _ _ _ _ _ ?_
        refine And.intro (Exists.intro _ (cw_ro_o hI.1 ro_nn)) (Exists.intro _ (Exists.intro _ (Exists.intro _ (Exists.intro _ (And.intro (F_X7_howMany hI hs ro_nn x1 ) (And.intro rfl (fun r9 A9 h9 => ?_)))))))
        obtain ⟨y6, rfl, rfl, by6⟩ := h9
        exact ⟨rfl, fun e9 => absurd e9 (by decide), rfl, y6, rfl, rfl, by rw [CO_0 (by omega) (by omega)]; assumption⟩
      · skip
        refine hC.1 3 58 _ _ rfl _ _ _ _ _ ?_
        refine Exists.intro _ (And.intro (cw_o0 hI.1) ?_)
        refine Exists.intro _ (And.intro (cw_o2 hI.1) ?_)
        refine Exists.intro _ (Exists.intro _ (And.intro (Or.inl (cw_a15 hI.1)) (And.intro (by omega) ?_)))
        exact ⟨rfl, fun e9 => absurd e9 (by decide), rfl, (e 15 (x1).toInt.toNat), rfl, rfl, by exact (CO_1 (by omega) (by omega)).symm⟩
      · skip
        refine hC.1 4 68 _ _ rfl _ _ _ _ _ ?_
        have k0 : (0 : Int32).toInt = 0 := rfl
        refine And.intro (Exists.intro _ (cw_ro_o hI.1 ro_nn)) (Exists.intro _ (Exists.intro _ (Exists.intro _ (Exists.intro _ (And.intro (F_X7_placeOfNth hI hs ro_nn x1 (0 : Int32) ) (And.intro rfl (fun r9 A9 h9 => ?_)))))))
        obtain ⟨y8, rfl, rfl, by8⟩ := h9
        have hn9 := by8
        exact ⟨rfl, fun e9 => absurd e9 (by decide), rfl, y8, rfl, rfl, by rw [CO_2 (by omega) (by omega)]; exact NTH_0 (by omega) hn9⟩
      · skip
        refine hC.1 5 75 _ _ rfl _ _ _ _ _ ?_
        refine And.intro (Exists.intro _ (cw_ro_o hI.1 ro_nn)) (Exists.intro _ (Exists.intro _ (Exists.intro _ (Exists.intro _ (And.intro (F_X7_howMany hI hs ro_nn x1 ) (And.intro rfl (fun r9 A9 h9 => ?_)))))))
        obtain ⟨y10, rfl, rfl, by10⟩ := h9
        have cl9 := cn_le (e (nn + 1)) x1 (w nn).toInt.toNat
        intro m12 em_83
        try have e12 : m12.toInt = (y10).toInt - (1) := by rw [em_83]; exact pm_subc _ _ (1) rfl (by omega) (by omega)
        refine And.intro (Exists.intro _ (cw_ro_o hI.1 ro_nn)) (Exists.intro _ (Exists.intro _ (Exists.intro _ (Exists.intro _ (And.intro (F_X7_placeOfNth hI hs ro_nn x1 m12 ) (And.intro rfl (fun r9 A9 h9 => ?_)))))))
        obtain ⟨y13, rfl, rfl, by13⟩ := h9
        have hn9 := by13
        exact ⟨rfl, fun e9 => absurd e9 (by decide), rfl, y13, rfl, rfl, by rw [CO_3 (by omega) (by omega)]; exact NTH_last (by omega) (by omega) hn9⟩
      · skip
        refine hC.1 6 88 _ _ rfl _ _ _ _ _ ?_
        refine And.intro (Exists.intro _ (cw_ro_o hI.1 ro_nn)) (Exists.intro _ (Exists.intro _ (Exists.intro _ (Exists.intro _ (And.intro (F_X7_widestGap hI hs ro_nn x1 (by exact p0)) (And.intro rfl (fun r9 A9 h9 => ?_)))))))
        obtain ⟨y15, rfl, rfl, by15⟩ := h9
        exact ⟨rfl, fun e9 => absurd e9 (by decide), rfl, y15, rfl, rfl, by rw [CO_4 (by omega) (by omega)]; assumption⟩
  · skip
    have k0 : (0 : Int32).toInt = 0 := rfl
    refine And.intro (fun c9 => absurd c9 (by decide)) (fun _ => ?_)
    have km1 : (-1 : Int32).toInt = -1 := rfl
    exact ⟨rfl, fun e9 => absurd e9 (by decide), rfl, (-1 : Int32), rfl, rfl, by exact (CO_o (by omega)).symm⟩

end
