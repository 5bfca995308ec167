section
variable {l : Launch} {g : pm_G} {A0 : pm_H} {K nn dn : Nat} {q : Nat → Nat} {w : Nat → Int32} {e : Nat → Nat → Int32} {v : Nat → Int32} {f : Nat → Nat → Int32}
set_option maxRecDepth 100000 in
set_option maxHeartbeats 2000000 in
theorem c_X8_goThrough (hI : cw_I K nn dn q w e) (hs : cw_S v f) {o1 : Nat} (ho1 : cw_ro K o1) (x2 : Int32) (x3 : Int32) (x4 : Int32)  : pm_Mt l g 122 2 0 0 [.ref (q 6), .ref (q o1), .int x2, .int x3, .int x4] (cw A0 g K nn dn q w e v f) (cw_Qs A0 g K nn dn q w e (fun r v2 f2 => r = none ∧ (True))) := by
  refine mt_X8_goThrough rfl (fun J hC => ?_)
  have ro_nn : cw_ro K nn := hI.2.1.2.1
  have ro_dn : cw_ro K dn := hI.2.1.2.2.1
  have hu1 := hI.2.1
  unfold cw_W at hu1
  have rg_x2 := pm_rng x2
  have rg_x3 := pm_rng x3
  have rg_x4 := pm_rng x4
  have zz0 := cw_sz hI ho1
  refine hC.1 0 0 _ _ rfl _ _ _ _ _ ?_
  refine And.intro (Exists.intro _ (cw_o6 hI.1)) (Exists.intro _ (Exists.intro _ (Exists.intro _ (Exists.intro _ (And.intro (c_X8_findNextAlike hI hs ho1 ) (And.intro rfl (fun r9 A9 h9 => ?_)))))))
  rcases h9 with ⟨v3, f3, rfl, hs3, rfl, by2⟩
  have k0 : (0 : Int32).toInt = 0 := rfl
  refine Exists.intro _ (And.intro (cw_o6 hI.1) (And.intro rfl ?_))
  rw [cw_p_missed hI.1]
  obtain ⟨v4, ev4⟩ : ∃ z9, z9 = upd v3 11 (0 : Int32) := ⟨_, rfl⟩
  rw [← ev4]
  have hs4 : cw_S v4 f3 := by rw [ev4]; exact cw_S_v hs3 11 _ (by decide)
  have ev4_0 : (v4 0).toInt = (v3 0).toInt := by rw [ev4]; rfl
  refine Exists.intro _ (And.intro (cw_o6 hI.1) (And.intro rfl ?_))
  rw [cw_p_sbits hI.1]
  obtain ⟨v5, ev5⟩ : ∃ z9, z9 = upd v4 12 (0 : Int32) := ⟨_, rfl⟩
  rw [← ev5]
  have hs5 : cw_S v5 f3 := by rw [ev5]; exact cw_S_v hs4 12 _ (by decide)
  have ev5_0 : (v5 0).toInt = (v4 0).toInt := by rw [ev5]; rfl
  have lp7 : ∀ (n : Nat) (z5_18 : Int32) (v6 : Nat → Int32) (f6 : Nat → Nat → Int32), cw_S v6 f6 → (0 ≤ z5_18.toInt ∧ z5_18.toInt ≤ 160) → 200 - z5_18.toInt < (n : Int) → J 18 [some (.ref (q 6)), some (.ref (q o1)), some (.int x2), some (.int x3), some (.int x4), some (.int z5_18), none] [] (cw A0 g K nn dn q w e v6 f6) 0 0 := by
    intro n
    induction n with
    | zero =>
      intro z5_18 v6 f6 hs6 j0_18 j1_18
      omega
    | succ n ih8 =>
      intro z5_18 v6 f6 hs6 j0_18 j1_18
      refine hC.1 1 18 _ _ rfl _ _ _ _ _ ?_
      refine And.intro (fun c9 => ?_) (fun c9 => ?_)
      · skip
        refine hC.1 4 136 _ _ rfl _ _ _ _ _ ?_
        exact ⟨rfl, rfl, v6, f6, rfl, hs6, rfl, by exact True.intro⟩
      · skip
        refine And.intro (Exists.intro _ (cw_ro_o hI.1 ho1)) (Exists.intro _ (Exists.intro _ (Exists.intro _ (Exists.intro _ (And.intro (c_X7_has hI hs6 ho1 z5_18 ) (And.intro rfl (fun r9 A9 h9 => ?_)))))))
        rcases h9 with ⟨y10, rfl, rfl, ⟨rfl, by10⟩ | ⟨rfl, by10⟩⟩
        · skip
          have k1 : (1 : Int32).toInt = 1 := rfl
          refine And.intro (fun c9 => absurd c9 (by decide)) (fun _ => ?_)
          refine Exists.intro _ (And.intro (cw_ro_o hI.1 ho1) ?_)
          refine Exists.intro _ (Exists.intro _ (And.intro (Or.inl (cw_ro_1 hI.1 ho1)) (And.intro (by omega) ?_)))
          have w12 := cw_col hI ho1 (z5_18).toInt.toNat
          refine Exists.intro _ (And.intro (cw_o6 hI.1) ?_)
          refine And.intro (fun c13 => ?_) (fun c13 => ?_)
          · skip
            have dc13 := pm_neI c13
            refine hC.1 3 107 _ _ rfl _ _ _ _ _ ?_
            refine Exists.intro _ (And.intro (cw_o6 hI.1) ?_)
            refine Exists.intro _ (Exists.intro _ (And.intro (cw_a23 hI.1) (And.intro (by omega) ?_)))
            rw [cw_s23 hI.1]
            obtain ⟨f14, ef14⟩ : ∃ z9, z9 = va_up f6 23 (upd (f6 23) ((e (o1 + 1) (z5_18).toInt.toNat)).toInt.toNat z5_18) := ⟨_, rfl⟩
            rw [← ef14]
            have hs14 : cw_S v6 f14 := by rw [ef14]; exact cw_S_fr hs6 _ _ (by decide) (by decide)
            refine Exists.intro _ (And.intro (cw_o6 hI.1) ?_)
            refine Exists.intro _ (And.intro (cw_o6 hI.1) ?_)
            refine Exists.intro _ (Exists.intro _ (And.intro (Or.inl (cw_a22 hI.1)) (And.intro (by omega) ?_)))
            refine Exists.intro _ (Exists.intro _ (And.intro (cw_a24 hI.1) (And.intro (by omega) ?_)))
            rw [cw_s24 hI.1]
            obtain ⟨f15, ef15⟩ : ∃ z9, z9 = va_up f14 24 (upd (f14 24) ((e (o1 + 1) (z5_18).toInt.toNat)).toInt.toNat (f14 22 (z5_18).toInt.toNat)) := ⟨_, rfl⟩
            rw [← ef15]
            have hs15 : cw_S v6 f15 := by rw [ef15]; exact cw_S_fr hs14 _ _ (by decide) (by decide)
            intro m16 em_130
            try have e16 : m16.toInt = (z5_18).toInt + (1) := by rw [em_130]; exact pm_addc _ _ (1) rfl (by omega) (by omega)
            exact hC.2 [false, false, false, false, false, false, true] _ _ _ _ _ _ (ih8 m16 v6 f15 hs15 (by omega) (by omega))
          · skip
            have dc13 : (((v6 12) &&& ((1 : Int32) <<< ((e (o1 + 1) (z5_18).toInt.toNat) &&& 31)))).toInt = (0 : Int32).toInt := congrArg Int32.toInt c13
            refine Exists.intro _ (And.intro (cw_o6 hI.1) ?_)
            intro m17 em_60
            try have e17 : m17.toInt = ((v6 11)).toInt + (1) := by rw [em_60]; exact pm_addc _ _ (1) rfl (by omega) (by omega)
            refine Exists.intro _ (And.intro (cw_o6 hI.1) (And.intro rfl ?_))
            rw [cw_p_missed hI.1]
            obtain ⟨v18, ev18⟩ : ∃ z9, z9 = upd v6 11 m17 := ⟨_, rfl⟩
            rw [← ev18]
            have hs18 : cw_S v18 f6 := by rw [ev18]; exact cw_S_v hs6 11 _ (by decide)
            have ev18_0 : (v18 0).toInt = (v6 0).toInt := by rw [ev18]; rfl
            refine Exists.intro _ (And.intro (cw_o6 hI.1) ?_)
            refine Exists.intro _ (Exists.intro _ (Exists.intro _ (Exists.intro _ (And.intro (c_J6_bitCount_0f7a4 (cw A0 g K nn dn q w e v18 f6) (v18 12) ) (And.intro rfl (fun r9 A9 h9 => ?_))))))
            obtain ⟨y19, rfl, rfl, by19⟩ := h9
            refine And.intro (fun c21 => ?_) (fun c21 => ?_)
            · skip
              refine hC.1 2 94 _ _ rfl _ _ _ _ _ ?_
              refine Exists.intro _ (And.intro (cw_o6 hI.1) ?_)
              refine Exists.intro _ (And.intro (cw_o6 hI.1) (And.intro rfl ?_))
              rw [cw_p_sbits hI.1]
              obtain ⟨v22, ev22⟩ : ∃ z9, z9 = upd v18 12 ((v18 12) ||| ((1 : Int32) <<< ((e (o1 + 1) (z5_18).toInt.toNat) &&& 31))) := ⟨_, rfl⟩
              rw [← ev22]
              have hs22 : cw_S v22 f6 := by rw [ev22]; exact cw_S_v hs18 12 _ (by decide)
              have ev22_0 : (v22 0).toInt = (v18 0).toInt := by rw [ev22]; rfl
              refine hC.1 3 107 _ _ rfl _ _ _ _ _ ?_
              refine Exists.intro _ (And.intro (cw_o6 hI.1) ?_)
              refine Exists.intro _ (Exists.intro _ (And.intro (cw_a23 hI.1) (And.intro (by omega) ?_)))
              rw [cw_s23 hI.1]
              obtain ⟨f23, ef23⟩ : ∃ z9, z9 = va_up f6 23 (upd (f6 23) ((e (o1 + 1) (z5_18).toInt.toNat)).toInt.toNat z5_18) := ⟨_, rfl⟩
              rw [← ef23]
              have hs23 : cw_S v22 f23 := by rw [ef23]; exact cw_S_fr hs22 _ _ (by decide) (by decide)
              refine Exists.intro _ (And.intro (cw_o6 hI.1) ?_)
              refine Exists.intro _ (And.intro (cw_o6 hI.1) ?_)
              refine Exists.intro _ (Exists.intro _ (And.intro (Or.inl (cw_a22 hI.1)) (And.intro (by omega) ?_)))
              refine Exists.intro _ (Exists.intro _ (And.intro (cw_a24 hI.1) (And.intro (by omega) ?_)))
              rw [cw_s24 hI.1]
              obtain ⟨f24, ef24⟩ : ∃ z9, z9 = va_up f23 24 (upd (f23 24) ((e (o1 + 1) (z5_18).toInt.toNat)).toInt.toNat (f23 22 (z5_18).toInt.toNat)) := ⟨_, rfl⟩
              rw [← ef24]
              have hs24 : cw_S v22 f24 := by rw [ef24]; exact cw_S_fr hs23 _ _ (by decide) (by decide)
              intro m25 em_130
              try have e25 : m25.toInt = (z5_18).toInt + (1) := by rw [em_130]; exact pm_addc _ _ (1) rfl (by omega) (by omega)
              exact hC.2 [false, false, false, false, false, false, true] _ _ _ _ _ _ (ih8 m25 v22 f24 hs24 (by omega) (by omega))
            · skip
              refine Exists.intro _ (And.intro (cw_o6 hI.1) ?_)
              refine And.intro (Exists.intro _ (cw_o6 hI.1)) (Exists.intro _ (Exists.intro _ (Exists.intro _ (Exists.intro _ (And.intro (c_X8_oneToGo hI hs18 x4 ) (And.intro rfl (fun r9 A9 h9 => ?_)))))))
              obtain ⟨y26, rfl, rfl, by26⟩ := h9
              have km1 : (-1 : Int32).toInt = -1 := rfl
              refine Exists.intro _ (And.intro (cw_o6 hI.1) (And.intro rfl ?_))
              rw [cw_p_sbits hI.1]
              obtain ⟨v28, ev28⟩ : ∃ z9, z9 = upd v18 12 ((v18 12) &&& (((1 : Int32) <<< (y26 &&& 31)) ^^^ (-1 : Int32))) := ⟨_, rfl⟩
              rw [← ev28]
              have hs28 : cw_S v28 f6 := by rw [ev28]; exact cw_S_v hs18 12 _ (by decide)
              have ev28_0 : (v28 0).toInt = (v18 0).toInt := by rw [ev28]; rfl
              refine hC.1 2 94 _ _ rfl _ _ _ _ _ ?_
              refine Exists.intro _ (And.intro (cw_o6 hI.1) ?_)
              refine Exists.intro _ (And.intro (cw_o6 hI.1) (And.intro rfl ?_))
              rw [cw_p_sbits hI.1]
              obtain ⟨v29, ev29⟩ : ∃ z9, z9 = upd v28 12 ((v28 12) ||| ((1 : Int32) <<< ((e (o1 + 1) (z5_18).toInt.toNat) &&& 31))) := ⟨_, rfl⟩
              rw [← ev29]
              have hs29 : cw_S v29 f6 := by rw [ev29]; exact cw_S_v hs28 12 _ (by decide)
              have ev29_0 : (v29 0).toInt = (v28 0).toInt := by rw [ev29]; rfl
              refine hC.1 3 107 _ _ rfl _ _ _ _ _ ?_
              refine Exists.intro _ (And.intro (cw_o6 hI.1) ?_)
              refine Exists.intro _ (Exists.intro _ (And.intro (cw_a23 hI.1) (And.intro (by omega) ?_)))
              rw [cw_s23 hI.1]
              obtain ⟨f30, ef30⟩ : ∃ z9, z9 = va_up f6 23 (upd (f6 23) ((e (o1 + 1) (z5_18).toInt.toNat)).toInt.toNat z5_18) := ⟨_, rfl⟩
              rw [← ef30]
              have hs30 : cw_S v29 f30 := by rw [ef30]; exact cw_S_fr hs29 _ _ (by decide) (by decide)
              refine Exists.intro _ (And.intro (cw_o6 hI.1) ?_)
              refine Exists.intro _ (And.intro (cw_o6 hI.1) ?_)
              refine Exists.intro _ (Exists.intro _ (And.intro (Or.inl (cw_a22 hI.1)) (And.intro (by omega) ?_)))
              refine Exists.intro _ (Exists.intro _ (And.intro (cw_a24 hI.1) (And.intro (by omega) ?_)))
              rw [cw_s24 hI.1]
              obtain ⟨f31, ef31⟩ : ∃ z9, z9 = va_up f30 24 (upd (f30 24) ((e (o1 + 1) (z5_18).toInt.toNat)).toInt.toNat (f30 22 (z5_18).toInt.toNat)) := ⟨_, rfl⟩
              rw [← ef31]
              have hs31 : cw_S v29 f31 := by rw [ef31]; exact cw_S_fr hs30 _ _ (by decide) (by decide)
              intro m32 em_130
              try have e32 : m32.toInt = (z5_18).toInt + (1) := by rw [em_130]; exact pm_addc _ _ (1) rfl (by omega) (by omega)
              exact hC.2 [false, false, false, false, false, false, true] _ _ _ _ _ _ (ih8 m32 v29 f31 hs31 (by omega) (by omega))
        · skip
          refine And.intro (fun _ => ?_) (fun c9 => absurd c9 (by decide))
          refine hC.1 4 136 _ _ rfl _ _ _ _ _ ?_
          exact ⟨rfl, rfl, v6, f6, rfl, hs6, rfl, by exact True.intro⟩
  exact lp7 (200 - (0 : Int32).toInt).toNat.succ (0 : Int32) v5 f3 hs5 (by omega) (by omega)

end
