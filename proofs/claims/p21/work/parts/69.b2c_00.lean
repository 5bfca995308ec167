section
variable {l : Launch} {g : pm_G} {A0 : pm_H} {K nn dn : Nat} {q : Nat → Nat} {w : Nat → Int32} {e : Nat → Nat → Int32} {v : Nat → Int32} {f : Nat → Nat → Int32}
set_option maxRecDepth 100000 in
set_option maxHeartbeats 2000000 in
theorem F_X2_clear (hI : cw_I K nn dn q w e) (hs : cw_S v f)   : pm_Mt l g 56 1 0 0 [.ref (q 2)] (cw A0 g K nn dn q w e v f) (cw_Qs A0 g K nn dn q w e (fun r v2 f2 => r = none ∧ ((True) ∧ (PAL v2 (f2 14) (e 15) (fun _ => 0) 0 ∧ (∀ i, i ≠ 14 → f2 i = f i) ∧ (∀ i, i = 0 ∨ 5 ≤ i → v2 i = v i))))) := by
  refine mt_X2_clear rfl (fun J hC => ?_)
  have ro_nn : cw_ro K nn := hI.2.1.2.1
  have ro_dn : cw_ro K dn := hI.2.1.2.2.1
  have hu1 := hI.2.1
  unfold cw_W at hu1
  refine hC.1 0 0 _ _ rfl _ _ _ _ _ ?_
  refine Exists.intro _ (And.intro (cw_o2 hI.1) ?_)
  have k0 : (0 : Int32).toInt = 0 := rfl
  refine Exists.intro _ (Exists.intro _ (Exists.intro _ (Exists.intro _ (And.intro (c_fill (cw_a14 hI.1) (by decide) (0 : Int32)) (And.intro rfl (fun r9 A9 h9 => ?_))))))
  obtain ⟨rfl, rfl⟩ := h9
  rw [cw_s14 hI.1]
  obtain ⟨f2, ef2⟩ : ∃ z9, z9 = va_up f 14 (fun j => if j < 24 then (0 : Int32) else f 14 j) := ⟨_, rfl⟩
  rw [← ef2]
  have hs2 : cw_S v f2 := by rw [ef2]; exact cw_S_fr hs _ _ (by decide) (by decide)
  have pf_5 := ef2
  refine Exists.intro _ (And.intro (cw_o2 hI.1) (And.intro rfl ?_))
  rw [cw_p_length hI.1]
  obtain ⟨v3, ev3⟩ : ∃ z9, z9 = upd v 1 (0 : Int32) := ⟨_, rfl⟩
  rw [← ev3]
  have hs3 : cw_S v3 f2 := by rw [ev3]; exact cw_S_v hs2 1 _ (by decide)
  have ev3_0 : (v3 0).toInt = (v 0).toInt := by rw [ev3]; rfl
  have pv_10 := ev3
  refine Exists.intro _ (And.intro (cw_o2 hI.1) (And.intro rfl ?_))
  rw [cw_p_kinds hI.1]
  obtain ⟨v4, ev4⟩ : ∃ z9, z9 = upd v3 2 (0 : Int32) := ⟨_, rfl⟩
  rw [← ev4]
  have hs4 : cw_S v4 f2 := by rw [ev4]; exact cw_S_v hs3 2 _ (by decide)
  have ev4_0 : (v4 0).toInt = (v3 0).toInt := by rw [ev4]; rfl
  have pv_15 := ev4
  refine Exists.intro _ (And.intro (cw_o2 hI.1) (And.intro rfl ?_))
  rw [cw_p_bits hI.1]
  obtain ⟨v5, ev5⟩ : ∃ z9, z9 = upd v4 3 (0 : Int32) := ⟨_, rfl⟩
  rw [← ev5]
  have hs5 : cw_S v5 f2 := by rw [ev5]; exact cw_S_v hs4 3 _ (by decide)
  have ev5_0 : (v5 0).toInt = (v4 0).toInt := by rw [ev5]; rfl
  have pv_20 := ev5
  refine Exists.intro _ (And.intro (cw_o2 hI.1) (And.intro rfl ?_))
  rw [cw_p_mass hI.1]
  obtain ⟨v6, ev6⟩ : ∃ z9, z9 = upd v5 4 (0 : Int32) := ⟨_, rfl⟩
  rw [← ev6]
  have hs6 : cw_S v6 f2 := by rw [ev6]; exact cw_S_v hs5 4 _ (by decide)
  have ev6_0 : (v6 0).toInt = (v5 0).toInt := by rw [ev6]; rfl
  have pv_25 := ev6
  exact ⟨rfl, rfl, v6, f2, rfl, hs6, rfl, by first | trivial | omega | (dsimp only; omega), by exact ⟨PAL_0 (fun x9 h9 => (by rw [pf_5, va_us, if_pos h9])) (by rw [pv_25, pk_un (by decide), pv_20, pk_un (by decide), pv_15, pk_un (by decide), pv_10, pk_us]) (by rw [pv_25, pk_un (by decide), pv_20, pk_un (by decide), pv_15, pk_us]) (by rw [pv_25, pk_un (by decide), pv_20, pk_us]) (by rw [pv_25, pk_us]), fun i9 h9 => (by rw [pf_5, va_un h9]), fun i9 h9 => (by rw [pv_25, pk_un (by omega), pv_20, pk_un (by omega), pv_15, pk_un (by omega), pv_10, pk_un (by omega)])⟩⟩

set_option maxRecDepth 100000 in
set_option maxHeartbeats 2000000 in
theorem F_X2_take (hI : cw_I K nn dn q w e) (hs : cw_S v f) (x1 : Int32) (p0 : 0 ≤ x1.toInt ∧ x1.toInt ≤ 23) : pm_Mt l g 57 0 0 0 [.ref (q 2), .int x1] (cw A0 g K nn dn q w e v f) (cw_Qs A0 g K nn dn q w e (fun r v2 f2 => r = none ∧ ((True) ∧ ((∀ N n, PAL v (f 14) (e 15) N n → n < 1000 → PAL v2 (f2 14) (e 15) (upN N x1.toInt.toNat) (n + 1)) ∧ (∀ i, i ≠ 14 → f2 i = f i) ∧ (∀ i, i = 0 ∨ 5 ≤ i → v2 i = v i))))) := by
  refine mt_X2_take rfl (fun J hC => ?_)
  have ro_nn : cw_ro K nn := hI.2.1.2.1
  have ro_dn : cw_ro K dn := hI.2.1.2.2.1
  have hu1 := hI.2.1
  unfold cw_W at hu1
  have rg_x1 := pm_rng x1
  refine hC.1 0 0 _ _ rfl _ _ _ _ _ ?_
  refine Exists.intro _ (And.intro (cw_o2 hI.1) ?_)
  have k1 : (1 : Int32).toInt = 1 := rfl
  intro m2 em_6
  refine Exists.intro _ (And.intro (cw_o2 hI.1) (And.intro rfl ?_))
  rw [cw_p_length hI.1]
  obtain ⟨v3, ev3⟩ : ∃ z9, z9 = upd v 1 m2 := ⟨_, rfl⟩
  rw [← ev3]
  have hs3 : cw_S v3 f := by rw [ev3]; exact cw_S_v hs 1 _ (by decide)
  have ev3_0 : (v3 0).toInt = (v 0).toInt := by rw [ev3]; rfl
  have pv_7 := ev3
  refine Exists.intro _ (And.intro (cw_o2 hI.1) ?_)
  refine Exists.intro _ (Exists.intro _ (And.intro (Or.inl (cw_a14 hI.1)) (And.intro (by omega) ?_)))
  intro m4 em_18
  refine Exists.intro _ (Exists.intro _ (And.intro (cw_a14 hI.1) (And.intro (by omega) ?_)))
  rw [cw_s14 hI.1]
  obtain ⟨f5, ef5⟩ : ∃ z9, z9 = va_up f 14 (upd (f 14) (x1).toInt.toNat m4) := ⟨_, rfl⟩
  rw [← ef5]
  have hs5 : cw_S v3 f5 := by rw [ef5]; exact cw_S_fr hs3 _ _ (by decide) (by decide)
  have pf_19 := ef5
  refine Exists.intro _ (And.intro (cw_o2 hI.1) ?_)
  refine Exists.intro _ (Exists.intro _ (And.intro (Or.inl (cw_a14 hI.1)) (And.intro (by omega) ?_)))
  refine And.intro (fun c6 => ?_) (fun c6 => ?_)
  · skip
    have dc6 := pm_neI c6
    refine hC.1 1 67 _ _ rfl _ _ _ _ _ ?_
    exact ⟨rfl, rfl, v3, f5, rfl, hs5, rfl, by first | trivial | omega | (dsimp only; omega), by first | (have t9 := PAL_t1 (W := e 15) (k := f 14) (k1 := f5 14) p0 pv_7 em_6 (by rw [pf_19, va_us]) em_18 (by omega) pv_37 em_36 pv_49 pv_64 em_63; exact ⟨t9.1, fun i9 h9 => (by rw [pf_19, va_un h9]), t9.2⟩) | (have t9 := PAL_t2 (W := e 15) (k := f 14) (k1 := f5 14) p0 pv_7 em_6 (by rw [pf_19, va_us]) em_18 (by omega); exact ⟨t9.1, fun i9 h9 => (by rw [pf_19, va_un h9]), t9.2⟩)⟩
  · skip
    have dc6 : ((f5 14 (x1).toInt.toNat)).toInt = ((1 : Int32) : Int32).toInt := congrArg Int32.toInt c6
    refine Exists.intro _ (And.intro (cw_o2 hI.1) ?_)
    intro m7 em_36
    refine Exists.intro _ (And.intro (cw_o2 hI.1) (And.intro rfl ?_))
    rw [cw_p_kinds hI.1]
    obtain ⟨v8, ev8⟩ : ∃ z9, z9 = upd v3 2 m7 := ⟨_, rfl⟩
    rw [← ev8]
    have hs8 : cw_S v8 f5 := by rw [ev8]; exact cw_S_v hs5 2 _ (by decide)
    have ev8_0 : (v8 0).toInt = (v3 0).toInt := by rw [ev8]; rfl
    have pv_37 := ev8
    refine Exists.intro _ (And.intro (cw_o2 hI.1) ?_)
    refine Exists.intro _ (And.intro (cw_o2 hI.1) (And.intro rfl ?_))
    rw [cw_p_bits hI.1]
    obtain ⟨v9, ev9⟩ : ∃ z9, z9 = upd v8 3 ((v8 3) ||| ((1 : Int32) <<< (x1 &&& 31))) := ⟨_, rfl⟩
    rw [← ev9]
    have hs9 : cw_S v9 f5 := by rw [ev9]; exact cw_S_v hs8 3 _ (by decide)
    have ev9_0 : (v9 0).toInt = (v8 0).toInt := by rw [ev9]; rfl
    have pv_49 := ev9
    refine Exists.intro _ (And.intro (cw_o2 hI.1) ?_)
    refine Exists.intro _ (And.intro (cw_o2 hI.1) ?_)
    refine Exists.intro _ (Exists.intro _ (And.intro (Or.inl (cw_a15 hI.1)) (And.intro (by omega) ?_)))
    intro m10 em_63
    refine Exists.intro _ (And.intro (cw_o2 hI.1) (And.intro rfl ?_))
    rw [cw_p_mass hI.1]
    obtain ⟨v11, ev11⟩ : ∃ z9, z9 = upd v9 4 m10 := ⟨_, rfl⟩
    rw [← ev11]
    have hs11 : cw_S v11 f5 := by rw [ev11]; exact cw_S_v hs9 4 _ (by decide)
    have ev11_0 : (v11 0).toInt = (v9 0).toInt := by rw [ev11]; rfl
    have pv_64 := ev11
    refine hC.1 1 67 _ _ rfl _ _ _ _ _ ?_
    exact ⟨rfl, rfl, v11, f5, rfl, hs11, rfl, by first | trivial | omega | (dsimp only; omega), by first | (have t9 := PAL_t1 (W := e 15) (k := f 14) (k1 := f5 14) p0 pv_7 em_6 (by rw [pf_19, va_us]) em_18 (by omega) pv_37 em_36 pv_49 pv_64 em_63; exact ⟨t9.1, fun i9 h9 => (by rw [pf_19, va_un h9]), t9.2⟩) | (have t9 := PAL_t2 (W := e 15) (k := f 14) (k1 := f5 14) p0 pv_7 em_6 (by rw [pf_19, va_us]) em_18 (by omega); exact ⟨t9.1, fun i9 h9 => (by rw [pf_19, va_un h9]), t9.2⟩)⟩

set_option maxRecDepth 100000 in
set_option maxHeartbeats 2000000 in
theorem F_X2_read (hI : cw_I K nn dn q w e) (hs : cw_S v f) {o1 : Nat} (ho1 : cw_ro K o1) (x2 : Int32) (x3 : Int32) (p0 : 0 ≤ x2.toInt ∧ x3.toInt < (w o1).toInt ∧ x2.toInt ≤ x3.toInt + 1) : pm_Mt l g 55 2 0 0 [.ref (q 2), .ref (q o1), .int x2, .int x3] (cw A0 g K nn dn q w e v f) (cw_Qs A0 g K nn dn q w e (fun r v2 f2 => r = none ∧ ((True) ∧ (PAL v2 (f2 14) (e 15) (nc (e (o1 + 1)) x2.toInt.toNat (x3.toInt + 1 - x2.toInt).toNat) (x3.toInt + 1 - x2.toInt) ∧ (∀ i, i ≠ 14 → f2 i = f i) ∧ (∀ i, i = 0 ∨ 5 ≤ i → v2 i = v i))))) := by
  refine mt_X2_read rfl (fun J hC => ?_)
  have ro_nn : cw_ro K nn := hI.2.1.2.1
  have ro_dn : cw_ro K dn := hI.2.1.2.2.1
  have hu1 := hI.2.1
  unfold cw_W at hu1
  have rg_x2 := pm_rng x2
  have rg_x3 := pm_rng x3
  have zz0 := cw_sz hI ho1
  refine hC.1 0 0 _ _ rfl _ _ _ _ _ ?_
  refine And.intro (Exists.intro _ (cw_o2 hI.1)) (Exists.intro _ (Exists.intro _ (Exists.intro _ (Exists.intro _ (And.intro (F_X2_clear hI hs  ) (And.intro rfl (fun r9 A9 h9 => ?_)))))))
  rcases h9 with ⟨v3, f3, rfl, hs3, rfl, by2⟩
  have hc9 := by2.2
  have lp5 : ∀ (n : Nat) (z4_7 : Int32) (v4 : Nat → Int32) (f4 : Nat → Nat → Int32), cw_S v4 f4 → (x2.toInt ≤ z4_7.toInt ∧ z4_7.toInt ≤ x3.toInt + 1) → (PAL v4 (f4 14) (e 15) (nc (e (o1 + 1)) x2.toInt.toNat (z4_7.toInt - x2.toInt).toNat) (z4_7.toInt - x2.toInt)) → ((∀ i, i ≠ 14 → f4 i = f i)) → ((∀ i, i = 0 ∨ 5 ≤ i → v4 i = v i)) → ((200 - z4_7.toInt).toNat : Int) < (n : Int) → J 7 [some (.ref (q 2)), some (.ref (q o1)), some (.int x2), some (.int x3), some (.int z4_7)] [] (cw A0 g K nn dn q w e v4 f4) 0 0 := by
    intro n
    induction n with
    | zero =>
      intro z4_7 v4 f4 hs4 j0_7 j1_7 j2_7 j3_7 j4_7
      omega
    | succ n ih6 =>
      intro z4_7 v4 f4 hs4 j0_7 j1_7 j2_7 j3_7 j4_7
      refine hC.1 1 7 _ _ rfl _ _ _ _ _ ?_
      refine And.intro (fun c7 => ?_) (fun c7 => ?_)
      · skip
        refine hC.1 2 39 _ _ rfl _ _ _ _ _ ?_
        exact ⟨rfl, rfl, v4, f4, rfl, hs4, rfl, by first | trivial | omega | (dsimp only; omega), by have h7 : z4_7.toInt = x3.toInt + 1 := (by omega); rw [h7] at j1_7; exact ⟨j1_7, j2_7, j3_7⟩⟩
      · skip
        refine And.intro (Exists.intro _ (cw_ro_o hI.1 ho1)) (Exists.intro _ (Exists.intro _ (Exists.intro _ (Exists.intro _ (And.intro (c_X7_has hI hs4 ho1 z4_7 ) (And.intro rfl (fun r9 A9 h9 => ?_)))))))
        rcases h9 with ⟨y8, rfl, rfl, ⟨rfl, by8⟩ | ⟨rfl, by8⟩⟩
        · skip
          have k1 : (1 : Int32).toInt = 1 := rfl
          refine And.intro (fun c9 => absurd c9 (by decide)) (fun _ => ?_)
          refine Exists.intro _ (And.intro (cw_ro_o hI.1 ho1) ?_)
          refine Exists.intro _ (Exists.intro _ (And.intro (Or.inl (cw_ro_1 hI.1 ho1)) (And.intro (by omega) ?_)))
          have w10 := cw_col hI ho1 (z4_7).toInt.toNat
          refine And.intro (Exists.intro _ (cw_o2 hI.1)) (Exists.intro _ (Exists.intro _ (Exists.intro _ (Exists.intro _ (And.intro (F_X2_take hI hs4 (e (o1 + 1) (z4_7).toInt.toNat) (by omega)) (And.intro rfl (fun r9 A9 h9 => ?_)))))))
          rcases h9 with ⟨v12, f12, rfl, hs12, rfl, by11⟩
          have ht9 := by11.2
          intro m13 em_33
          try have e13 : m13.toInt = (z4_7).toInt + (1) := by rw [em_33]; exact pm_addc _ _ (1) rfl (by omega) (by omega)
          exact ih6 m13 v12 f12 hs12 (by omega) (by have h8 := ht9.1 _ _ j1_7 (by omega); rw [show (m13.toInt - x2.toInt).toNat = (z4_7.toInt - x2.toInt).toNat + 1 by omega, nc, show x2.toInt.toNat + (z4_7.toInt - x2.toInt).toNat = z4_7.toInt.toNat by omega, show m13.toInt - x2.toInt = z4_7.toInt - x2.toInt + 1 by omega]; exact h8) (by exact fun i9 h9 => (ht9.2.1 i9 h9).trans (j2_7 i9 h9)) (by exact fun i9 h9 => (ht9.2.2 i9 h9).trans (j3_7 i9 h9)) (by omega)
        · skip
          have k0 : (0 : Int32).toInt = 0 := rfl
          refine And.intro (fun _ => ?_) (fun c9 => absurd c9 (by decide))
          refine hC.1 2 39 _ _ rfl _ _ _ _ _ ?_
          exact ⟨rfl, rfl, v4, f4, rfl, hs4, rfl, by first | trivial | omega | (dsimp only; omega), by have h7 : z4_7.toInt = x3.toInt + 1 := (by omega); rw [h7] at j1_7; exact ⟨j1_7, j2_7, j3_7⟩⟩
  exact lp5 (((200 - x2.toInt).toNat : Int)).toNat.succ x2 v3 f3 hs3 (by omega) (by rw [show (x2.toInt - x2.toInt).toNat = 0 by omega, show x2.toInt - x2.toInt = 0 by omega]; exact hc9.1) (by exact hc9.2.1) (by exact hc9.2.2) (by omega)

set_option maxRecDepth 100000 in
set_option maxHeartbeats 2000000 in
theorem F_X10_readSpan (hI : cw_I K nn dn q w e) (hs : cw_S v f) (x1 : Int32) (x2 : Int32)  : pm_Mt l g 59 3 0 0 [.ref (q 0), .int x1, .int x2] (cw A0 g K nn dn q w e v f) (cw_Qs A0 g K nn dn q w e (fun r v2 f2 => (r = some (.int 1) ∧ ((0 ≤ x1.toInt ∧ x1.toInt ≤ x2.toInt ∧ x2.toInt < (w nn).toInt) ∧ PAL v2 (f2 14) (e 15) (nc (e (nn + 1)) x1.toInt.toNat (x2.toInt + 1 - x1.toInt).toNat) (x2.toInt + 1 - x1.toInt))) ∨ (r = some (.int 0) ∧ (¬ (0 ≤ x1.toInt ∧ x1.toInt ≤ x2.toInt ∧ x2.toInt < (w nn).toInt))))) := by
  refine mt_X10_readSpan rfl (fun J hC => ?_)
  have ro_nn : cw_ro K nn := hI.2.1.2.1
  have ro_dn : cw_ro K dn := hI.2.1.2.2.1
  have hu1 := hI.2.1
  unfold cw_W at hu1
  have rg_x1 := pm_rng x1
  have rg_x2 := pm_rng x2
  have zz0 := cw_sz hI ro_nn
  refine hC.1 0 0 _ _ rfl _ _ _ _ _ ?_
  refine Exists.intro _ (And.intro (cw_o0 hI.1) ?_)
  refine Exists.intro _ (And.intro (cw_o1 hI.1) ?_)
  refine And.intro (Exists.intro _ (cw_ro_o hI.1 ro_nn)) (Exists.intro _ (Exists.intro _ (Exists.intro _ (Exists.intro _ (And.intro (c_X7_isSpan hI hs ro_nn x1 x2 ) (And.intro rfl (fun r9 A9 h9 => ?_)))))))
  rcases h9 with ⟨y2, rfl, rfl, ⟨rfl, by2⟩ | ⟨rfl, by2⟩⟩
  · skip
    have k1 : (1 : Int32).toInt = 1 := rfl
    refine And.intro (fun _ => ?_) (fun c9 => absurd c9 (by decide))
    refine hC.1 1 17 _ _ rfl _ _ _ _ _ ?_
    refine Exists.intro _ (And.intro (cw_o0 hI.1) ?_)
    refine Exists.intro _ (And.intro (cw_o0 hI.1) ?_)
    refine Exists.intro _ (And.intro (cw_o1 hI.1) ?_)
    refine And.intro (Exists.intro _ (cw_o2 hI.1)) (Exists.intro _ (Exists.intro _ (Exists.intro _ (Exists.intro _ (And.intro (F_X2_read hI hs ro_nn x1 x2 (by omega)) (And.intro rfl (fun r9 A9 h9 => ?_)))))))
    rcases h9 with ⟨v5, f5, rfl, hs5, rfl, by4⟩
    have hr9 := by4.2
    exact ⟨rfl, fun _ => (by decide), rfl, v5, f5, rfl, hs5, Or.inl ⟨rfl, by exact ⟨by omega, hr9.1⟩⟩⟩
  · skip
    have k0 : (0 : Int32).toInt = 0 := rfl
    refine And.intro (fun c9 => absurd c9 (by decide)) (fun _ => ?_)
    exact ⟨rfl, fun _ => (by decide), rfl, v, f, rfl, hs, Or.inr ⟨rfl, by omega⟩⟩

set_option maxRecDepth 100000 in
set_option maxHeartbeats 2000000 in
theorem F_X10_weight (hI : cw_I K nn dn q w e) (hs : cw_S v f) (x1 : Int32) (x2 : Int32)  : pm_Mt l g 60 4 0 0 [.ref (q 0), .int x1, .int x2] (cw A0 g K nn dn q w e v f) (cw_Qs A0 g K nn dn q w e (fun r v2 f2 => ∃ x : Int32, r = some (.int x) ∧ ((True) ∧ (x = WGT (e (nn + 1)) (e 15) (w nn).toInt x1.toInt x2.toInt)))) := by
  refine mt_X10_weight rfl (fun J hC => ?_)
  have ro_nn : cw_ro K nn := hI.2.1.2.1
  have ro_dn : cw_ro K dn := hI.2.1.2.2.1
  have hu1 := hI.2.1
  unfold cw_W at hu1
  have rg_x1 := pm_rng x1
  have rg_x2 := pm_rng x2
  refine hC.1 0 0 _ _ rfl _ _ _ _ _ ?_
  refine And.intro (Exists.intro _ (cw_o0 hI.1)) (Exists.intro _ (Exists.intro _ (Exists.intro _ (Exists.intro _ (And.intro (F_X10_readSpan hI hs x1 x2 ) (And.intro rfl (fun r9 A9 h9 => ?_)))))))
  rcases h9 with ⟨v3, f3, rfl, hs3, hzy2⟩
  rcases hzy2 with ⟨rfl, by2⟩ | ⟨rfl, by2⟩
  · skip
    have k1 : (1 : Int32).toInt = 1 := rfl
    have hs9 := by2.1
    have hr9 := by2.2
    refine And.intro (fun c9 => absurd c9 (by decide)) (fun _ => ?_)
    refine Exists.intro _ (And.intro (cw_o0 hI.1) ?_)
    refine Exists.intro _ (And.intro (cw_o2 hI.1) ?_)
    refine hC.1 2 20 _ _ rfl _ _ _ _ _ ?_
    exact ⟨rfl, fun e9 => absurd e9 (by decide), rfl, v3, f3, rfl, hs3, (v3 4), rfl, by first | trivial | omega | (dsimp only; omega), by first | (exact (WGT_n (by omega)).symm) | (rw [WGT_y hs9]; exact PAL_ms (fun j9 => cw_col hI ro_nn j9) hr9)⟩
  · skip
    have k0 : (0 : Int32).toInt = 0 := rfl
    have hs9 := by2
    refine And.intro (fun _ => ?_) (fun c9 => absurd c9 (by decide))
    refine hC.1 1 19 _ _ rfl _ _ _ _ _ ?_
    have km1 : (-1 : Int32).toInt = -1 := rfl
    refine hC.1 2 20 _ _ rfl _ _ _ _ _ ?_
    exact ⟨rfl, fun e9 => absurd e9 (by decide), rfl, v3, f3, rfl, hs3, (-1 : Int32), rfl, by first | trivial | omega | (dsimp only; omega), by first | (exact (WGT_n (by omega)).symm) | (rw [WGT_y hs9]; exact PAL_ms (fun j9 => cw_col hI ro_nn j9) hr9)⟩

end
