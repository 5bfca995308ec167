section
variable {l : Launch} {g : pm_G} {A0 : pm_H} {K nn dn : Nat} {q : Nat → Nat} {w : Nat → Int32} {e : Nat → Nat → Int32} {v : Nat → Int32} {f : Nat → Nat → Int32}
set_option maxRecDepth 100000 in
set_option maxHeartbeats 2000000 in
theorem F_X7_nameAt (hI : cw_I K nn dn q w e) (hs : cw_S v f) {o0 : Nat} (ho0 : cw_ro K o0) (x1 : Int32)  : pm_Mt l g 21 1 0 0 [.ref (q o0), .int x1] (cw A0 g K nn dn q w e v f) (md_Qp (cw A0 g K nn dn q w e v f) (fun r => r = nmA (e (o0 + 2)) (w o0).toInt x1.toInt)) := by
  refine mt_X7_nameAt rfl (fun J hC => ?_)
  have ro_nn : cw_ro K nn := hI.2.1.2.1
  have ro_dn : cw_ro K dn := hI.2.1.2.2.1
  have hu1 := hI.2.1
  unfold cw_W at hu1
  have rg_x1 := pm_rng x1
  have zz0 := cw_sz hI ho0
  refine hC.1 0 0 _ _ rfl _ _ _ _ _ ?_
  refine And.intro (Exists.intro _ (cw_ro_o hI.1 ho0)) (Exists.intro _ (Exists.intro _ (Exists.intro _ (Exists.intro _ (And.intro (c_X7_has hI hs ho0 x1 ) (And.intro rfl (fun r9 A9 h9 => ?_)))))))
  rcases h9 with ⟨y2, rfl, rfl, ⟨rfl, by2⟩ | ⟨rfl, by2⟩⟩
  · skip
    have k1 : (1 : Int32).toInt = 1 := rfl
    refine And.intro (fun c9 => absurd c9 (by decide)) (fun _ => ?_)
    refine Exists.intro _ (And.intro (cw_ro_o hI.1 ho0) ?_)
    refine Exists.intro _ (Exists.intro _ (And.intro (Or.inl (cw_ro_2 hI.1 ho0)) (And.intro (by omega) ?_)))
    refine hC.1 2 18 _ _ rfl _ _ _ _ _ ?_
    exact ⟨rfl, fun e9 => absurd e9 (by decide), rfl, (e (o0 + 2) (x1).toInt.toNat), rfl, rfl, by first | (exact (nmA_y (by omega)).symm) | (exact (nmA_n (by omega)).symm)⟩
  · skip
    have k0 : (0 : Int32).toInt = 0 := rfl
    refine And.intro (fun _ => ?_) (fun c9 => absurd c9 (by decide))
    refine hC.1 1 17 _ _ rfl _ _ _ _ _ ?_
    have km1 : (-1 : Int32).toInt = -1 := rfl
    refine hC.1 2 18 _ _ rfl _ _ _ _ _ ?_
    exact ⟨rfl, fun e9 => absurd e9 (by decide), rfl, (-1 : Int32), rfl, rfl, by first | (exact (nmA_y (by omega)).symm) | (exact (nmA_n (by omega)).symm)⟩

set_option maxRecDepth 100000 in
set_option maxHeartbeats 2000000 in
theorem F_X7_bondAt (hI : cw_I K nn dn q w e) (hs : cw_S v f) {o0 : Nat} (ho0 : cw_ro K o0) (x1 : Int32) (p0 : bd (w o0) (e (o0 + 1)) (e (o0 + 3))) : pm_Mt l g 20 2 0 0 [.ref (q o0), .int x1] (cw A0 g K nn dn q w e v f) (md_Qp (cw A0 g K nn dn q w e v f) (fun r => r = BA (e (o0 + 1)) (e (o0 + 2)) (w o0).toInt x1.toInt)) := by
  refine mt_X7_bondAt rfl (fun J hC => ?_)
  have ro_nn : cw_ro K nn := hI.2.1.2.1
  have ro_dn : cw_ro K dn := hI.2.1.2.2.1
  have hu1 := hI.2.1
  unfold cw_W at hu1
  have rg_x1 := pm_rng x1
  have zz0 := cw_sz hI ho0
  refine hC.1 0 0 _ _ rfl _ _ _ _ _ ?_
  refine And.intro (Exists.intro _ (cw_ro_o hI.1 ho0)) (Exists.intro _ (Exists.intro _ (Exists.intro _ (Exists.intro _ (And.intro (c_X7_has hI hs ho0 x1 ) (And.intro rfl (fun r9 A9 h9 => ?_)))))))
  rcases h9 with ⟨y2, rfl, rfl, ⟨rfl, by2⟩ | ⟨rfl, by2⟩⟩
  · skip
    have k1 : (1 : Int32).toInt = 1 := rfl
    refine And.intro (fun c9 => absurd c9 (by decide)) (fun _ => ?_)
    refine Exists.intro _ (And.intro (cw_ro_o hI.1 ho0) ?_)
    refine Exists.intro _ (Exists.intro _ (And.intro (Or.inl (cw_ro_3 hI.1 ho0)) (And.intro (by omega) ?_)))
    have w4 := cw_ahd hI ho0 (x1).toInt.toNat
    refine And.intro (Exists.intro _ (cw_ro_o hI.1 ho0)) (Exists.intro _ (Exists.intro _ (Exists.intro _ (Exists.intro _ (And.intro (F_X7_nameAt hI hs ho0 (e (o0 + 3) (x1).toInt.toNat) ) (And.intro rfl (fun r9 A9 h9 => ?_)))))))
    obtain ⟨y5, rfl, rfl, by5⟩ := h9
    refine hC.1 2 22 _ _ rfl _ _ _ _ _ ?_
    exact ⟨rfl, fun e9 => absurd e9 (by decide), rfl, y5, rfl, rfl, by first | (exact (BA_n (by omega)).symm) | (exact (bo_a p0 (by omega) (by assumption)).trans (BA_y (by omega)).symm)⟩
  · skip
    have k0 : (0 : Int32).toInt = 0 := rfl
    refine And.intro (fun _ => ?_) (fun c9 => absurd c9 (by decide))
    refine hC.1 1 21 _ _ rfl _ _ _ _ _ ?_
    have km1 : (-1 : Int32).toInt = -1 := rfl
    refine hC.1 2 22 _ _ rfl _ _ _ _ _ ?_
    exact ⟨rfl, fun e9 => absurd e9 (by decide), rfl, (-1 : Int32), rfl, rfl, by first | (exact (BA_n (by omega)).symm) | (exact (bo_a p0 (by omega) (by assumption)).trans (BA_y (by omega)).symm)⟩

set_option maxRecDepth 100000 in
set_option maxHeartbeats 2000000 in
theorem F_X7_tell (hI : cw_I K nn dn q w e) (hs : cw_S v f) {o0 : Nat} (ho0 : cw_ro K o0) (x1 : Int32) (x2 : Int32) (p0 : bd (w o0) (e (o0 + 1)) (e (o0 + 3))) : pm_Mt l g 44 3 0 0 [.ref (q o0), .int x1, .int x2] (cw A0 g K nn dn q w e v f) (md_Qp (cw A0 g K nn dn q w e v f) (fun r => r = TL (e (o0 + 1)) (e (o0 + 2)) (w o0).toInt x1.toInt x2.toInt)) := by
  refine mt_X7_tell rfl (fun J hC => ?_)
  have ro_nn : cw_ro K nn := hI.2.1.2.1
  have ro_dn : cw_ro K dn := hI.2.1.2.2.1
  have hu1 := hI.2.1
  unfold cw_W at hu1
  have rg_x1 := pm_rng x1
  have rg_x2 := pm_rng x2
  have zz0 := cw_sz hI ho0
  refine hC.1 0 0 _ _ rfl _ _ _ _ _ ?_
  refine And.intro (Exists.intro _ (cw_ro_o hI.1 ho0)) (Exists.intro _ (Exists.intro _ (Exists.intro _ (Exists.intro _ (And.intro (c_X7_has hI hs ho0 x1 ) (And.intro rfl (fun r9 A9 h9 => ?_)))))))
  rcases h9 with ⟨y2, rfl, rfl, ⟨rfl, by2⟩ | ⟨rfl, by2⟩⟩
  · skip
    have k1 : (1 : Int32).toInt = 1 := rfl
    refine And.intro (fun _ => ?_) (fun c9 => absurd c9 (by decide))
    refine hC.1 1 10 _ _ rfl _ _ _ _ _ ?_
    refine pm_swc 3 rfl (by decide) ?_ ?_
    · intro _
      refine hC.1 5 56 _ _ rfl _ _ _ _ _ ?_
      have km1 : (-1 : Int32).toInt = -1 := rfl
      exact ⟨rfl, fun e9 => absurd e9 (by decide), rfl, (-1 : Int32), rfl, rfl, by exact (TL_d (by omega)).symm⟩
    · intro i9 hi9 he9
      rcases (show i9 = 0 ∨ i9 = 1 ∨ i9 = 2 by omega) with rfl | rfl | rfl
      · skip
        refine hC.1 2 36 _ _ rfl _ _ _ _ _ ?_
        refine Exists.intro _ (And.intro (cw_ro_o hI.1 ho0) ?_)
        refine Exists.intro _ (Exists.intro _ (And.intro (Or.inl (cw_ro_1 hI.1 ho0)) (And.intro (by omega) ?_)))
        have w6 := cw_col hI ho0 (x1).toInt.toNat
        exact ⟨rfl, fun e9 => absurd e9 (by decide), rfl, (e (o0 + 1) (x1).toInt.toNat), rfl, rfl, by exact (TL_0 (by omega) (by omega)).symm⟩
      · skip
        refine hC.1 3 43 _ _ rfl _ _ _ _ _ ?_
        refine Exists.intro _ (And.intro (cw_ro_o hI.1 ho0) ?_)
        refine Exists.intro _ (Exists.intro _ (And.intro (Or.inl (cw_ro_2 hI.1 ho0)) (And.intro (by omega) ?_)))
        exact ⟨rfl, fun e9 => absurd e9 (by decide), rfl, (e (o0 + 2) (x1).toInt.toNat), rfl, rfl, by exact (TL_1 (by omega) (by omega)).symm⟩
      · skip
        refine hC.1 4 50 _ _ rfl _ _ _ _ _ ?_
        refine And.intro (Exists.intro _ (cw_ro_o hI.1 ho0)) (Exists.intro _ (Exists.intro _ (Exists.intro _ (Exists.intro _ (And.intro (F_X7_bondAt hI hs ho0 x1 (by exact p0)) (And.intro rfl (fun r9 A9 h9 => ?_)))))))
        obtain ⟨y7, rfl, rfl, by7⟩ := h9
        exact ⟨rfl, fun e9 => absurd e9 (by decide), rfl, y7, rfl, rfl, by rw [TL_2 (by omega) (by omega)]; exact Eq.trans (by assumption) (BA_y (by omega))⟩
  · skip
    have k0 : (0 : Int32).toInt = 0 := rfl
    refine And.intro (fun c9 => absurd c9 (by decide)) (fun _ => ?_)
    have km1 : (-1 : Int32).toInt = -1 := rfl
    exact ⟨rfl, fun e9 => absurd e9 (by decide), rfl, (-1 : Int32), rfl, rfl, by exact (TL_o (by omega)).symm⟩

set_option maxRecDepth 100000 in
set_option maxHeartbeats 2000000 in
theorem F_X7_nextAlike (hI : cw_I K nn dn q w e) (hs : cw_S v f) {o0 : Nat} (ho0 : cw_ro K o0) (x1 : Int32)  : pm_Mt l g 43 1 0 0 [.ref (q o0), .int x1] (cw A0 g K nn dn q w e v f) (md_Qp (cw A0 g K nn dn q w e v f) (fun r => r.toInt = NXA (e (o0 + 1)) (w o0).toInt x1.toInt)) := by
  refine mt_X7_nextAlike rfl (fun J hC => ?_)
  have ro_nn : cw_ro K nn := hI.2.1.2.1
  have ro_dn : cw_ro K dn := hI.2.1.2.2.1
  have hu1 := hI.2.1
  unfold cw_W at hu1
  have rg_x1 := pm_rng x1
  have zz0 := cw_sz hI ho0
  refine hC.1 0 0 _ _ rfl _ _ _ _ _ ?_
  refine And.intro (Exists.intro _ (cw_ro_o hI.1 ho0)) (Exists.intro _ (Exists.intro _ (Exists.intro _ (Exists.intro _ (And.intro (c_X7_has hI hs ho0 x1 ) (And.intro rfl (fun r9 A9 h9 => ?_)))))))
  rcases h9 with ⟨y2, rfl, rfl, ⟨rfl, by2⟩ | ⟨rfl, by2⟩⟩
  · skip
    have k1 : (1 : Int32).toInt = 1 := rfl
    refine And.intro (fun _ => ?_) (fun c9 => absurd c9 (by decide))
    refine hC.1 1 10 _ _ rfl _ _ _ _ _ ?_
    intro m4 em_12
    try have e4 : m4.toInt = (x1).toInt + (1) := by rw [em_12]; exact pm_addc _ _ (1) rfl (by omega) (by omega)
    have lp6 : ∀ (n : Nat) (z2_14 : Int32), (x1.toInt + 1 ≤ z2_14.toInt ∧ z2_14.toInt ≤ (w o0).toInt) → (NX (e (o0 + 1)) (w o0).toInt x1.toInt = nextEq (e (o0 + 1)) ((e (o0 + 1)) x1.toInt.toNat) z2_14.toInt.toNat ((w o0).toInt - z2_14.toInt).toNat) → 200 - z2_14.toInt < (n : Int) → J 14 [some (.ref (q o0)), some (.int x1), some (.int z2_14)] [] (cw A0 g K nn dn q w e v f) 0 0 := by
      intro n
      induction n with
      | zero =>
        intro z2_14 j0_14 j1_14 j2_14
        omega
      | succ n ih7 =>
        intro z2_14 j0_14 j1_14 j2_14
        refine hC.1 2 14 _ _ rfl _ _ _ _ _ ?_
        refine Exists.intro _ (And.intro (cw_ro_o hI.1 ho0) ?_)
        have z8 := cw_sz hI ho0
        refine And.intro (fun c9 => ?_) (fun c9 => ?_)
        · skip
          refine hC.1 4 45 _ _ rfl _ _ _ _ _ ?_
          have km1 : (-1 : Int32).toInt = -1 := rfl
          exact ⟨rfl, fun e9 => absurd e9 (by decide), rfl, (-1 : Int32), rfl, rfl, by rw [NXA_y (by omega), j1_14, show ((w o0).toInt - z2_14.toInt).toNat = 0 by omega]; rfl⟩
        · skip
          refine Exists.intro _ (And.intro (cw_ro_o hI.1 ho0) ?_)
          refine Exists.intro _ (Exists.intro _ (And.intro (Or.inl (cw_ro_1 hI.1 ho0)) (And.intro (by omega) ?_)))
          have w10 := cw_col hI ho0 (z2_14).toInt.toNat
          refine Exists.intro _ (And.intro (cw_ro_o hI.1 ho0) ?_)
          refine Exists.intro _ (Exists.intro _ (And.intro (Or.inl (cw_ro_1 hI.1 ho0)) (And.intro (by omega) ?_)))
          have w11 := cw_col hI ho0 (x1).toInt.toNat
          refine And.intro (fun c12 => ?_) (fun c12 => ?_)
          · skip
            have dc12 := pm_neI c12
            refine hC.1 3 39 _ _ rfl _ _ _ _ _ ?_
            intro m13 em_39
            try have e13 : m13.toInt = (z2_14).toInt + (1) := by rw [em_39]; exact pm_addc _ _ (1) rfl (by omega) (by omega)
            exact ih7 m13 (by omega) (by rw [j1_14, nextEq_s (by omega) (by omega), if_neg (by assumption)]; congr 1 <;> omega) (by omega)
          · skip
            have dc12 : ((e (o0 + 1) (z2_14).toInt.toNat)).toInt = ((e (o0 + 1) (x1).toInt.toNat) : Int32).toInt := congrArg Int32.toInt c12
            exact ⟨rfl, fun e9 => absurd e9 (by decide), rfl, z2_14, rfl, rfl, by rw [NXA_y (by omega), j1_14, nextEq_s (by omega) (by omega), if_pos (by assumption)]⟩
    exact lp6 (200 - m4.toInt).toNat.succ m4 (by omega) (by unfold NX; congr 1 <;> omega) (by omega)
  · skip
    have k0 : (0 : Int32).toInt = 0 := rfl
    refine And.intro (fun c9 => absurd c9 (by decide)) (fun _ => ?_)
    have km1 : (-1 : Int32).toInt = -1 := rfl
    exact ⟨rfl, fun e9 => absurd e9 (by decide), rfl, (-1 : Int32), rfl, rfl, by exact (NXA_n (by omega)).symm⟩

set_option maxRecDepth 100000 in
set_option maxHeartbeats 2000000 in
theorem F_X10_at (hI : cw_I K nn dn q w e) (hs : cw_S v f) (x1 : Int32) (x2 : Int32) (p0 : bd (w nn) (e (nn + 1)) (e (nn + 3))) : pm_Mt l g 42 4 0 0 [.ref (q 0), .int x1, .int x2] (cw A0 g K nn dn q w e v f) (md_Qp (cw A0 g K nn dn q w e v f) (fun r => r = AT (e (nn + 1)) (e (nn + 2)) (w nn).toInt x1.toInt x2.toInt)) := by
  refine mt_X10_at rfl (fun J hC => ?_)
  have ro_nn : cw_ro K nn := hI.2.1.2.1
  have ro_dn : cw_ro K dn := hI.2.1.2.2.1
  have hu1 := hI.2.1
  unfold cw_W at hu1
  have rg_x1 := pm_rng x1
  have rg_x2 := pm_rng x2
  have zz0 := cw_sz hI ro_nn
  refine hC.1 0 0 _ _ rfl _ _ _ _ _ ?_
  refine Exists.intro _ (And.intro (cw_o0 hI.1) ?_)
  refine Exists.intro _ (And.intro (cw_o1 hI.1) ?_)
  have k3 : (3 : Int32).toInt = 3 := rfl
  refine And.intro (fun c2 => ?_) (fun c2 => ?_)
  · skip
    have dc2 := pm_neI c2
    refine hC.1 1 25 _ _ rfl _ _ _ _ _ ?_
    refine And.intro (Exists.intro _ (cw_ro_o hI.1 ro_nn)) (Exists.intro _ (Exists.intro _ (Exists.intro _ (Exists.intro _ (And.intro (F_X7_tell hI hs ro_nn x1 x2 (by exact p0)) (And.intro rfl (fun r9 A9 h9 => ?_)))))))
    obtain ⟨y3, rfl, rfl, by3⟩ := h9
    refine hC.1 2 31 _ _ rfl _ _ _ _ _ ?_
    exact ⟨rfl, fun e9 => absurd e9 (by decide), rfl, y3, rfl, rfl, by first | (exact AT_c3 (by omega) (by assumption) (by assumption)) | (exact Eq.trans (by assumption) (AT_t (by omega)).symm)⟩
  · skip
    have dc2 : (x2).toInt = ((3 : Int32) : Int32).toInt := congrArg Int32.toInt c2
    refine And.intro (Exists.intro _ (cw_ro_o hI.1 ro_nn)) (Exists.intro _ (Exists.intro _ (Exists.intro _ (Exists.intro _ (And.intro (F_X7_nextAlike hI hs ro_nn x1 ) (And.intro rfl (fun r9 A9 h9 => ?_)))))))
    obtain ⟨y5, rfl, rfl, by5⟩ := h9
    refine And.intro (Exists.intro _ (cw_ro_o hI.1 ro_nn)) (Exists.intro _ (Exists.intro _ (Exists.intro _ (Exists.intro _ (And.intro (F_X7_nameAt hI hs ro_nn y5 ) (And.intro rfl (fun r9 A9 h9 => ?_)))))))
    obtain ⟨y7, rfl, rfl, by7⟩ := h9
    refine hC.1 2 31 _ _ rfl _ _ _ _ _ ?_
    exact ⟨rfl, fun e9 => absurd e9 (by decide), rfl, y7, rfl, rfl, by first | (exact AT_c3 (by omega) (by assumption) (by assumption)) | (exact Eq.trans (by assumption) (AT_t (by omega)).symm)⟩

end
