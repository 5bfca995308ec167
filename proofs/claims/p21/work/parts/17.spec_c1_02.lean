section
variable {l : Launch} {g : pm_G} {A0 : pm_H} {K nn dn : Nat} {q : Nat → Nat} {w : Nat → Int32} {e : Nat → Nat → Int32} {v : Nat → Int32} {f : Nat → Nat → Int32}
set_option maxRecDepth 100000 in
set_option maxHeartbeats 2000000 in
theorem c_X9_unlikeNow (hI : cw_I K nn dn q w e) (hs : cw_S v f) {o1 : Nat} (ho1 : cw_ro K o1) (x2 : Int32)  : pm_Mt l g 156 5 0 0 [.ref (q 1), .ref (q o1), .int x2] (cw A0 g K nn dn q w e v f) (md_Qp (cw A0 g K nn dn q w e v f) (fun r => True)) := by
  refine mt_X9_unlikeNow rfl (fun J hC => ?_)
  have hu1 := hI.2.1
  unfold cw_W at hu1
  have ro_nn : cw_ro K nn := hI.2.1.2.1
  have ro_dn : cw_ro K dn := hI.2.1.2.2.1
  have rg_x2 := pm_rng x2
  have zz0 := cw_sz hI ro_nn
  refine hC.1 0 0 _ _ rfl _ _ _ _ _ ?_
  have k0 : (0 : Int32).toInt = 0 := rfl
  have lp3 : ∀ (n : Nat) (z3_5 : Int32) (z4_5 : Int32), (0 ≤ z4_5.toInt ∧ z4_5.toInt ≤ 160) → 200 - z4_5.toInt < (n : Int) → J 5 [some (.ref (q 1)), some (.ref (q o1)), some (.int x2), some (.int z3_5), some (.int z4_5), none] [] (cw A0 g K nn dn q w e v f) 0 0 := by
    intro n
    induction n with
    | zero =>
      intro z3_5 z4_5 j0_5 j1_5
      omega
    | succ n ih4 =>
      intro z3_5 z4_5 j0_5 j1_5
      refine hC.1 1 5 _ _ rfl _ _ _ _ _ ?_
      refine Exists.intro _ (And.intro (cw_o1 hI.1) ?_)
      refine Exists.intro _ (And.intro (cw_ro_o hI.1 ro_nn) ?_)
      have z5 := cw_sz hI ro_nn
      refine And.intro (fun c6 => ?_) (fun c6 => ?_)
      · skip
        refine hC.1 3 61 _ _ rfl _ _ _ _ _ ?_
        exact ⟨rfl, fun e9 => absurd e9 (by decide), rfl, z3_5, rfl, rfl, by first | trivial | omega | (dsimp only; omega)⟩
      · skip
        refine Exists.intro _ (And.intro (cw_o1 hI.1) ?_)
        refine Exists.intro _ (And.intro (cw_ro_o hI.1 ro_nn) ?_)
        refine Exists.intro _ (Exists.intro _ (And.intro (Or.inl (cw_ro_2 hI.1 ro_nn)) (And.intro (by omega) ?_)))
        refine And.intro (Exists.intro _ (cw_ro_o hI.1 ho1)) (Exists.intro _ (Exists.intro _ (Exists.intro _ (Exists.intro _ (And.intro (c_X7_placeOf hI hs ho1 (e (nn + 2) (z4_5).toInt.toNat) ) (And.intro rfl (fun r9 A9 h9 => ?_)))))))
        obtain ⟨y7, rfl, rfl, by7⟩ := h9
        have km1 : (-1 : Int32).toInt = -1 := rfl
        refine And.intro (fun c9 => ?_) (fun c9 => ?_)
        · skip
          have dc9 : (y7).toInt = ((-1 : Int32) : Int32).toInt := congrArg Int32.toInt c9
          refine hC.1 2 55 _ _ rfl _ _ _ _ _ ?_
          have k1 : (1 : Int32).toInt = 1 := rfl
          intro m10 em_55
          try have e10 : m10.toInt = (z4_5).toInt + (1) := by rw [em_55]; exact pm_addc _ _ (1) rfl (by omega) (by omega)
          exact hC.2 [false, false, false, false, false, true] _ _ _ _ _ _ (ih4 z3_5 m10 (by omega) (by omega))
        · skip
          have dc9 := pm_neI c9
          refine And.intro (Exists.intro _ (cw_o1 hI.1)) (Exists.intro _ (Exists.intro _ (Exists.intro _ (Exists.intro _ (And.intro (c_X9_isUnlike hI hs ho1 y7 z4_5 x2 ) (And.intro rfl (fun r9 A9 h9 => ?_)))))))
          rcases h9 with ⟨y11, rfl, rfl, ⟨rfl, by11⟩ | ⟨rfl, by11⟩⟩
          · skip
            have k1 : (1 : Int32).toInt = 1 := rfl
            refine And.intro (fun c9 => absurd c9 (by decide)) (fun _ => ?_)
            intro m13 em_52
            try have e13 : m13.toInt = (z3_5).toInt + (1) := by rw [em_52]; exact pm_addc _ _ (1) rfl (by omega) (by omega)
            refine hC.1 2 55 _ _ rfl _ _ _ _ _ ?_
            intro m14 em_55
            try have e14 : m14.toInt = (z4_5).toInt + (1) := by rw [em_55]; exact pm_addc _ _ (1) rfl (by omega) (by omega)
            exact hC.2 [false, false, false, false, false, true] _ _ _ _ _ _ (ih4 m13 m14 (by omega) (by omega))
          · skip
            refine And.intro (fun _ => ?_) (fun c9 => absurd c9 (by decide))
            refine hC.1 2 55 _ _ rfl _ _ _ _ _ ?_
            have k1 : (1 : Int32).toInt = 1 := rfl
            intro m15 em_55
            try have e15 : m15.toInt = (z4_5).toInt + (1) := by rw [em_55]; exact pm_addc _ _ (1) rfl (by omega) (by omega)
            exact hC.2 [false, false, false, false, false, true] _ _ _ _ _ _ (ih4 z3_5 m15 (by omega) (by omega))
  exact lp3 (200 - (0 : Int32).toInt).toNat.succ (0 : Int32) (0 : Int32) (by omega) (by omega)

set_option maxRecDepth 100000 in
set_option maxHeartbeats 2000000 in
theorem c_X2_clear (hI : cw_I K nn dn q w e) (hs : cw_S v f)   : pm_Mt l g 56 1 0 0 [.ref (q 2)] (cw A0 g K nn dn q w e v f) (cw_Qs A0 g K nn dn q w e (fun r v2 f2 => r = none ∧ (True))) := by
  refine mt_X2_clear rfl (fun J hC => ?_)
  have hu1 := hI.2.1
  unfold cw_W at hu1
  have ro_nn : cw_ro K nn := hI.2.1.2.1
  have ro_dn : cw_ro K dn := hI.2.1.2.2.1
  refine hC.1 0 0 _ _ rfl _ _ _ _ _ ?_
  refine Exists.intro _ (And.intro (cw_o2 hI.1) ?_)
  have k0 : (0 : Int32).toInt = 0 := rfl
  refine Exists.intro _ (Exists.intro _ (Exists.intro _ (Exists.intro _ (And.intro (c_fill (cw_a14 hI.1) (by decide) (0 : Int32)) (And.intro rfl (fun r9 A9 h9 => ?_))))))
  obtain ⟨rfl, rfl⟩ := h9
  rw [cw_s14 hI.1]
  obtain ⟨f2, ef2⟩ : ∃ z9, z9 = va_up f 14 (fun j => if j < 24 then (0 : Int32) else f 14 j) := ⟨_, rfl⟩
  rw [← ef2]
  have hs2 : cw_S v f2 := by rw [ef2]; exact cw_S_fr hs _ _ (by decide) (by decide)
  refine Exists.intro _ (And.intro (cw_o2 hI.1) (And.intro rfl ?_))
  rw [cw_p_length hI.1]
  obtain ⟨v3, ev3⟩ : ∃ z9, z9 = upd v 1 (0 : Int32) := ⟨_, rfl⟩
  rw [← ev3]
  have hs3 : cw_S v3 f2 := by rw [ev3]; exact cw_S_v hs2 1 _ (by decide)
  have ev3_0 : (v3 0).toInt = (v 0).toInt := by rw [ev3]; rfl
  refine Exists.intro _ (And.intro (cw_o2 hI.1) (And.intro rfl ?_))
  rw [cw_p_kinds hI.1]
  obtain ⟨v4, ev4⟩ : ∃ z9, z9 = upd v3 2 (0 : Int32) := ⟨_, rfl⟩
  rw [← ev4]
  have hs4 : cw_S v4 f2 := by rw [ev4]; exact cw_S_v hs3 2 _ (by decide)
  have ev4_0 : (v4 0).toInt = (v3 0).toInt := by rw [ev4]; rfl
  refine Exists.intro _ (And.intro (cw_o2 hI.1) (And.intro rfl ?_))
  rw [cw_p_bits hI.1]
  obtain ⟨v5, ev5⟩ : ∃ z9, z9 = upd v4 3 (0 : Int32) := ⟨_, rfl⟩
  rw [← ev5]
  have hs5 : cw_S v5 f2 := by rw [ev5]; exact cw_S_v hs4 3 _ (by decide)
  have ev5_0 : (v5 0).toInt = (v4 0).toInt := by rw [ev5]; rfl
  refine Exists.intro _ (And.intro (cw_o2 hI.1) (And.intro rfl ?_))
  rw [cw_p_mass hI.1]
  obtain ⟨v6, ev6⟩ : ∃ z9, z9 = upd v5 4 (0 : Int32) := ⟨_, rfl⟩
  rw [← ev6]
  have hs6 : cw_S v6 f2 := by rw [ev6]; exact cw_S_v hs5 4 _ (by decide)
  have ev6_0 : (v6 0).toInt = (v5 0).toInt := by rw [ev6]; rfl
  exact ⟨rfl, rfl, v6, f2, rfl, hs6, rfl, by first | trivial | omega | (dsimp only; omega)⟩

set_option maxRecDepth 100000 in
set_option maxHeartbeats 2000000 in
theorem c_X2_take (hI : cw_I K nn dn q w e) (hs : cw_S v f) (x1 : Int32) (p0 : 0 ≤ x1.toInt ∧ x1.toInt ≤ 23) : pm_Mt l g 57 0 0 0 [.ref (q 2), .int x1] (cw A0 g K nn dn q w e v f) (cw_Qs A0 g K nn dn q w e (fun r v2 f2 => r = none ∧ (True))) := by
  refine mt_X2_take rfl (fun J hC => ?_)
  have hu1 := hI.2.1
  unfold cw_W at hu1
  have ro_nn : cw_ro K nn := hI.2.1.2.1
  have ro_dn : cw_ro K dn := hI.2.1.2.2.1
  have rg_x1 := pm_rng x1
  refine hC.1 0 0 _ _ rfl _ _ _ _ _ ?_
  refine Exists.intro _ (And.intro (cw_o2 hI.1) ?_)
  have k1 : (1 : Int32).toInt = 1 := rfl
  intro m2 em_6
  try have e2 : m2.toInt = ((v 1)).toInt + (1) := by rw [em_6]; exact pm_addc _ _ (1) rfl (by omega) (by omega)
  refine Exists.intro _ (And.intro (cw_o2 hI.1) (And.intro rfl ?_))
  rw [cw_p_length hI.1]
  obtain ⟨v3, ev3⟩ : ∃ z9, z9 = upd v 1 m2 := ⟨_, rfl⟩
  rw [← ev3]
  have hs3 : cw_S v3 f := by rw [ev3]; exact cw_S_v hs 1 _ (by decide)
  have ev3_0 : (v3 0).toInt = (v 0).toInt := by rw [ev3]; rfl
  refine Exists.intro _ (And.intro (cw_o2 hI.1) ?_)
  refine Exists.intro _ (Exists.intro _ (And.intro (Or.inl (cw_a14 hI.1)) (And.intro (by omega) ?_)))
  intro m4 em_18
  try have e4 : m4.toInt = ((f 14 (x1).toInt.toNat)).toInt + (1) := by rw [em_18]; exact pm_addc _ _ (1) rfl (by omega) (by omega)
  refine Exists.intro _ (Exists.intro _ (And.intro (cw_a14 hI.1) (And.intro (by omega) ?_)))
  rw [cw_s14 hI.1]
  obtain ⟨f5, ef5⟩ : ∃ z9, z9 = va_up f 14 (upd (f 14) (x1).toInt.toNat m4) := ⟨_, rfl⟩
  rw [← ef5]
  have hs5 : cw_S v3 f5 := by rw [ef5]; exact cw_S_fr hs3 _ _ (by decide) (by decide)
  refine Exists.intro _ (And.intro (cw_o2 hI.1) ?_)
  refine Exists.intro _ (Exists.intro _ (And.intro (Or.inl (cw_a14 hI.1)) (And.intro (by omega) ?_)))
  refine And.intro (fun c6 => ?_) (fun c6 => ?_)
  · skip
    have dc6 := pm_neI c6
    refine hC.1 1 67 _ _ rfl _ _ _ _ _ ?_
    exact ⟨rfl, rfl, v3, f5, rfl, hs5, rfl, by first | trivial | omega | (dsimp only; omega)⟩
  · skip
    have dc6 : ((f5 14 (x1).toInt.toNat)).toInt = ((1 : Int32) : Int32).toInt := congrArg Int32.toInt c6
    refine Exists.intro _ (And.intro (cw_o2 hI.1) ?_)
    intro m7 em_36
    try have e7 : m7.toInt = ((v3 2)).toInt + (1) := by rw [em_36]; exact pm_addc _ _ (1) rfl (by omega) (by omega)
    refine Exists.intro _ (And.intro (cw_o2 hI.1) (And.intro rfl ?_))
    rw [cw_p_kinds hI.1]
    obtain ⟨v8, ev8⟩ : ∃ z9, z9 = upd v3 2 m7 := ⟨_, rfl⟩
    rw [← ev8]
    have hs8 : cw_S v8 f5 := by rw [ev8]; exact cw_S_v hs5 2 _ (by decide)
    have ev8_0 : (v8 0).toInt = (v3 0).toInt := by rw [ev8]; rfl
    refine Exists.intro _ (And.intro (cw_o2 hI.1) ?_)
    refine Exists.intro _ (And.intro (cw_o2 hI.1) (And.intro rfl ?_))
    rw [cw_p_bits hI.1]
    obtain ⟨v9, ev9⟩ : ∃ z9, z9 = upd v8 3 ((v8 3) ||| ((1 : Int32) <<< (x1 &&& 31))) := ⟨_, rfl⟩
    rw [← ev9]
    have hs9 : cw_S v9 f5 := by rw [ev9]; exact cw_S_v hs8 3 _ (by decide)
    have ev9_0 : (v9 0).toInt = (v8 0).toInt := by rw [ev9]; rfl
    refine Exists.intro _ (And.intro (cw_o2 hI.1) ?_)
    refine Exists.intro _ (And.intro (cw_o2 hI.1) ?_)
    refine Exists.intro _ (Exists.intro _ (And.intro (Or.inl (cw_a15 hI.1)) (And.intro (by omega) ?_)))
    intro m10 em_63
    try have e10 : m10.toInt = ((v9 4)).toInt + ((e 15 (x1).toInt.toNat)).toInt := by rw [em_63]; exact pm_add _ _ (by omega) (by omega)
    refine Exists.intro _ (And.intro (cw_o2 hI.1) (And.intro rfl ?_))
    rw [cw_p_mass hI.1]
    obtain ⟨v11, ev11⟩ : ∃ z9, z9 = upd v9 4 m10 := ⟨_, rfl⟩
    rw [← ev11]
    have hs11 : cw_S v11 f5 := by rw [ev11]; exact cw_S_v hs9 4 _ (by decide)
    have ev11_0 : (v11 0).toInt = (v9 0).toInt := by rw [ev11]; rfl
    refine hC.1 1 67 _ _ rfl _ _ _ _ _ ?_
    exact ⟨rfl, rfl, v11, f5, rfl, hs11, rfl, by first | trivial | omega | (dsimp only; omega)⟩

set_option maxRecDepth 100000 in
set_option maxHeartbeats 2000000 in
theorem c_X2_drop (hI : cw_I K nn dn q w e) (hs : cw_S v f) (x1 : Int32) (p0 : 0 ≤ x1.toInt ∧ x1.toInt ≤ 23) : pm_Mt l g 113 0 0 0 [.ref (q 2), .int x1] (cw A0 g K nn dn q w e v f) (cw_Qs A0 g K nn dn q w e (fun r v2 f2 => r = none ∧ (True))) := by
  refine mt_X2_drop rfl (fun J hC => ?_)
  have hu1 := hI.2.1
  unfold cw_W at hu1
  have ro_nn : cw_ro K nn := hI.2.1.2.1
  have ro_dn : cw_ro K dn := hI.2.1.2.2.1
  have rg_x1 := pm_rng x1
  refine hC.1 0 0 _ _ rfl _ _ _ _ _ ?_
  refine Exists.intro _ (And.intro (cw_o2 hI.1) ?_)
  have k1 : (1 : Int32).toInt = 1 := rfl
  intro m2 em_6
  try have e2 : m2.toInt = ((v 1)).toInt - (1) := by rw [em_6]; exact pm_subc _ _ (1) rfl (by omega) (by omega)
  refine Exists.intro _ (And.intro (cw_o2 hI.1) (And.intro rfl ?_))
  rw [cw_p_length hI.1]
  obtain ⟨v3, ev3⟩ : ∃ z9, z9 = upd v 1 m2 := ⟨_, rfl⟩
  rw [← ev3]
  have hs3 : cw_S v3 f := by rw [ev3]; exact cw_S_v hs 1 _ (by decide)
  have ev3_0 : (v3 0).toInt = (v 0).toInt := by rw [ev3]; rfl
  refine Exists.intro _ (And.intro (cw_o2 hI.1) ?_)
  refine Exists.intro _ (Exists.intro _ (And.intro (Or.inl (cw_a14 hI.1)) (And.intro (by omega) ?_)))
  intro m4 em_18
  try have e4 : m4.toInt = ((f 14 (x1).toInt.toNat)).toInt - (1) := by rw [em_18]; exact pm_subc _ _ (1) rfl (by omega) (by omega)
  refine Exists.intro _ (Exists.intro _ (And.intro (cw_a14 hI.1) (And.intro (by omega) ?_)))
  rw [cw_s14 hI.1]
  obtain ⟨f5, ef5⟩ : ∃ z9, z9 = va_up f 14 (upd (f 14) (x1).toInt.toNat m4) := ⟨_, rfl⟩
  rw [← ef5]
  have hs5 : cw_S v3 f5 := by rw [ef5]; exact cw_S_fr hs3 _ _ (by decide) (by decide)
  refine Exists.intro _ (And.intro (cw_o2 hI.1) ?_)
  refine Exists.intro _ (Exists.intro _ (And.intro (Or.inl (cw_a14 hI.1)) (And.intro (by omega) ?_)))
  refine And.intro (fun c6 => ?_) (fun c6 => ?_)
  · skip
    have dc6 := pm_neI c6
    have k0 : (0 : Int32).toInt = 0 := rfl
    refine hC.1 1 68 _ _ rfl _ _ _ _ _ ?_
    exact ⟨rfl, rfl, v3, f5, rfl, hs5, rfl, by first | trivial | omega | (dsimp only; omega)⟩
  · skip
    have dc6 : ((f5 14 (x1).toInt.toNat)).toInt = (0 : Int32).toInt := congrArg Int32.toInt c6
    have k0 : (0 : Int32).toInt = 0 := rfl
    refine Exists.intro _ (And.intro (cw_o2 hI.1) ?_)
    intro m7 em_35
    try have e7 : m7.toInt = ((v3 2)).toInt - (1) := by rw [em_35]; exact pm_subc _ _ (1) rfl (by omega) (by omega)
    refine Exists.intro _ (And.intro (cw_o2 hI.1) (And.intro rfl ?_))
    rw [cw_p_kinds hI.1]
    obtain ⟨v8, ev8⟩ : ∃ z9, z9 = upd v3 2 m7 := ⟨_, rfl⟩
    rw [← ev8]
    have hs8 : cw_S v8 f5 := by rw [ev8]; exact cw_S_v hs5 2 _ (by decide)
    have ev8_0 : (v8 0).toInt = (v3 0).toInt := by rw [ev8]; rfl
    refine Exists.intro _ (And.intro (cw_o2 hI.1) ?_)
    have km1 : (-1 : Int32).toInt = -1 := rfl
    refine Exists.intro _ (And.intro (cw_o2 hI.1) (And.intro rfl ?_))
    rw [cw_p_bits hI.1]
    obtain ⟨v9, ev9⟩ : ∃ z9, z9 = upd v8 3 ((v8 3) &&& (((1 : Int32) <<< (x1 &&& 31)) ^^^ (-1 : Int32))) := ⟨_, rfl⟩
    rw [← ev9]
    have hs9 : cw_S v9 f5 := by rw [ev9]; exact cw_S_v hs8 3 _ (by decide)
    have ev9_0 : (v9 0).toInt = (v8 0).toInt := by rw [ev9]; rfl
    refine Exists.intro _ (And.intro (cw_o2 hI.1) ?_)
    refine Exists.intro _ (And.intro (cw_o2 hI.1) ?_)
    refine Exists.intro _ (Exists.intro _ (And.intro (Or.inl (cw_a15 hI.1)) (And.intro (by omega) ?_)))
    intro m10 em_64
    try have e10 : m10.toInt = ((v9 4)).toInt - ((e 15 (x1).toInt.toNat)).toInt := by rw [em_64]; exact pm_sub _ _ (by omega) (by omega)
    refine Exists.intro _ (And.intro (cw_o2 hI.1) (And.intro rfl ?_))
    rw [cw_p_mass hI.1]
    obtain ⟨v11, ev11⟩ : ∃ z9, z9 = upd v9 4 m10 := ⟨_, rfl⟩
    rw [← ev11]
    have hs11 : cw_S v11 f5 := by rw [ev11]; exact cw_S_v hs9 4 _ (by decide)
    have ev11_0 : (v11 0).toInt = (v9 0).toInt := by rw [ev11]; rfl
    refine hC.1 1 68 _ _ rfl _ _ _ _ _ ?_
    exact ⟨rfl, rfl, v11, f5, rfl, hs11, rfl, by first | trivial | omega | (dsimp only; omega)⟩

set_option maxRecDepth 100000 in
set_option maxHeartbeats 2000000 in
theorem c_X2_read (hI : cw_I K nn dn q w e) (hs : cw_S v f) {o1 : Nat} (ho1 : cw_ro K o1) (x2 : Int32) (x3 : Int32)  : pm_Mt l g 55 2 0 0 [.ref (q 2), .ref (q o1), .int x2, .int x3] (cw A0 g K nn dn q w e v f) (cw_Qs A0 g K nn dn q w e (fun r v2 f2 => r = none ∧ (True))) := by
  refine mt_X2_read rfl (fun J hC => ?_)
  have hu1 := hI.2.1
  unfold cw_W at hu1
  have ro_nn : cw_ro K nn := hI.2.1.2.1
  have ro_dn : cw_ro K dn := hI.2.1.2.2.1
  have rg_x2 := pm_rng x2
  have rg_x3 := pm_rng x3
  have zz0 := cw_sz hI ho1
  refine hC.1 0 0 _ _ rfl _ _ _ _ _ ?_
  refine And.intro (Exists.intro _ (cw_o2 hI.1)) (Exists.intro _ (Exists.intro _ (Exists.intro _ (Exists.intro _ (And.intro (c_X2_clear hI hs  ) (And.intro rfl (fun r9 A9 h9 => ?_)))))))
  rcases h9 with ⟨v3, f3, rfl, hs3, rfl, by2⟩
  have lp5 : ∀ (n : Nat) (z4_7 : Int32) (v4 : Nat → Int32) (f4 : Nat → Nat → Int32), cw_S v4 f4 → ((200 - z4_7.toInt).toNat : Int) < (n : Int) → J 7 [some (.ref (q 2)), some (.ref (q o1)), some (.int x2), some (.int x3), some (.int z4_7)] [] (cw A0 g K nn dn q w e v4 f4) 0 0 := by
    intro n
    induction n with
    | zero =>
      intro z4_7 v4 f4 hs4 j0_7
      omega
    | succ n ih6 =>
      intro z4_7 v4 f4 hs4 j0_7
      refine hC.1 1 7 _ _ rfl _ _ _ _ _ ?_
      refine And.intro (fun c7 => ?_) (fun c7 => ?_)
      · skip
        refine hC.1 2 39 _ _ rfl _ _ _ _ _ ?_
        exact ⟨rfl, rfl, v4, f4, rfl, hs4, rfl, by first | trivial | omega | (dsimp only; omega)⟩
      · skip
        refine And.intro (Exists.intro _ (cw_ro_o hI.1 ho1)) (Exists.intro _ (Exists.intro _ (Exists.intro _ (Exists.intro _ (And.intro (c_X7_has hI hs4 ho1 z4_7 ) (And.intro rfl (fun r9 A9 h9 => ?_)))))))
        rcases h9 with ⟨y8, rfl, rfl, ⟨rfl, by8⟩ | ⟨rfl, by8⟩⟩
        · skip
          have k1 : (1 : Int32).toInt = 1 := rfl
          refine And.intro (fun c9 => absurd c9 (by decide)) (fun _ => ?_)
          refine Exists.intro _ (And.intro (cw_ro_o hI.1 ho1) ?_)
          refine Exists.intro _ (Exists.intro _ (And.intro (Or.inl (cw_ro_1 hI.1 ho1)) (And.intro (by omega) ?_)))
          have w10 := cw_col hI ho1 (z4_7).toInt.toNat
          refine And.intro (Exists.intro _ (cw_o2 hI.1)) (Exists.intro _ (Exists.intro _ (Exists.intro _ (Exists.intro _ (And.intro (c_X2_take hI hs4 (e (o1 + 1) (z4_7).toInt.toNat) (by omega)) (And.intro rfl (fun r9 A9 h9 => ?_)))))))
          rcases h9 with ⟨v12, f12, rfl, hs12, rfl, by11⟩
          intro m13 em_33
          try have e13 : m13.toInt = (z4_7).toInt + (1) := by rw [em_33]; exact pm_addc _ _ (1) rfl (by omega) (by omega)
          exact ih6 m13 v12 f12 hs12 (by omega)
        · skip
          have k0 : (0 : Int32).toInt = 0 := rfl
          refine And.intro (fun _ => ?_) (fun c9 => absurd c9 (by decide))
          refine hC.1 2 39 _ _ rfl _ _ _ _ _ ?_
          exact ⟨rfl, rfl, v4, f4, rfl, hs4, rfl, by first | trivial | omega | (dsimp only; omega)⟩
  exact lp5 (((200 - x2.toInt).toNat : Int)).toNat.succ x2 v3 f3 hs3 (by omega)

set_option maxRecDepth 100000 in
set_option maxHeartbeats 2000000 in
theorem c_X2_kindsFrom (hI : cw_I K nn dn q w e) (hs : cw_S v f) (x1 : Int32)  : pm_Mt l g 64 0 0 0 [.ref (q 2), .int x1] (cw A0 g K nn dn q w e v f) (md_Qp (cw A0 g K nn dn q w e v f) (fun r => True)) := by
  refine mt_X2_kindsFrom rfl (fun J hC => ?_)
  have hu1 := hI.2.1
  unfold cw_W at hu1
  have ro_nn : cw_ro K nn := hI.2.1.2.1
  have ro_dn : cw_ro K dn := hI.2.1.2.2.1
  have rg_x1 := pm_rng x1
  refine hC.1 0 0 _ _ rfl _ _ _ _ _ ?_
  have k0 : (0 : Int32).toInt = 0 := rfl
  have lp3 : ∀ (n : Nat) (z2_4 : Int32) (z3_4 : Int32), (0 ≤ z3_4.toInt ∧ z3_4.toInt ≤ 24) → 200 - z3_4.toInt < (n : Int) → J 4 [some (.ref (q 2)), some (.int x1), some (.int z2_4), some (.int z3_4)] [] (cw A0 g K nn dn q w e v f) 0 0 := by
    intro n
    induction n with
    | zero =>
      intro z2_4 z3_4 j0_4 j1_4
      omega
    | succ n ih4 =>
      intro z2_4 z3_4 j0_4 j1_4
      refine hC.1 1 4 _ _ rfl _ _ _ _ _ ?_
      have k24 : (24 : Int32).toInt = 24 := rfl
      refine And.intro (fun c5 => ?_) (fun c5 => ?_)
      · skip
        refine hC.1 3 29 _ _ rfl _ _ _ _ _ ?_
        exact ⟨rfl, fun e9 => absurd e9 (by decide), rfl, z2_4, rfl, rfl, by first | trivial | omega | (dsimp only; omega)⟩
      · skip
        refine Exists.intro _ (And.intro (cw_o2 hI.1) ?_)
        refine Exists.intro _ (Exists.intro _ (And.intro (Or.inl (cw_a14 hI.1)) (And.intro (by omega) ?_)))
        refine And.intro (fun c6 => ?_) (fun c6 => ?_)
        · skip
          refine hC.1 2 23 _ _ rfl _ _ _ _ _ ?_
          have k1 : (1 : Int32).toInt = 1 := rfl
          intro m7 em_23
          try have e7 : m7.toInt = (z3_4).toInt + (1) := by rw [em_23]; exact pm_addc _ _ (1) rfl (by omega) (by omega)
          exact ih4 z2_4 m7 (by omega) (by omega)
        · skip
          have k1 : (1 : Int32).toInt = 1 := rfl
          intro m8 em_20
          try have e8 : m8.toInt = (z2_4).toInt + (1) := by rw [em_20]; exact pm_addc _ _ (1) rfl (by omega) (by omega)
          refine hC.1 2 23 _ _ rfl _ _ _ _ _ ?_
          intro m9 em_23
          try have e9 : m9.toInt = (z3_4).toInt + (1) := by rw [em_23]; exact pm_addc _ _ (1) rfl (by omega) (by omega)
          exact ih4 m8 m9 (by omega) (by omega)
  exact lp3 (200 - (0 : Int32).toInt).toNat.succ (0 : Int32) (0 : Int32) (by omega) (by omega)

set_option maxRecDepth 100000 in
set_option maxHeartbeats 2000000 in
theorem c_X2_kindsOfJust (hI : cw_I K nn dn q w e) (hs : cw_S v f) (x1 : Int32)  : pm_Mt l g 77 0 0 0 [.ref (q 2), .int x1] (cw A0 g K nn dn q w e v f) (md_Qp (cw A0 g K nn dn q w e v f) (fun r => True)) := by
  refine mt_X2_kindsOfJust rfl (fun J hC => ?_)
  have hu1 := hI.2.1
  unfold cw_W at hu1
  have ro_nn : cw_ro K nn := hI.2.1.2.1
  have ro_dn : cw_ro K dn := hI.2.1.2.2.1
  have rg_x1 := pm_rng x1
  refine hC.1 0 0 _ _ rfl _ _ _ _ _ ?_
  have k0 : (0 : Int32).toInt = 0 := rfl
  have lp3 : ∀ (n : Nat) (z2_4 : Int32) (z3_4 : Int32), (0 ≤ z3_4.toInt ∧ z3_4.toInt ≤ 24) → 200 - z3_4.toInt < (n : Int) → J 4 [some (.ref (q 2)), some (.int x1), some (.int z2_4), some (.int z3_4)] [] (cw A0 g K nn dn q w e v f) 0 0 := by
    intro n
    induction n with
    | zero =>
      intro z2_4 z3_4 j0_4 j1_4
      omega
    | succ n ih4 =>
      intro z2_4 z3_4 j0_4 j1_4
      refine hC.1 1 4 _ _ rfl _ _ _ _ _ ?_
      have k24 : (24 : Int32).toInt = 24 := rfl
      refine And.intro (fun c5 => ?_) (fun c5 => ?_)
      · skip
        refine hC.1 3 29 _ _ rfl _ _ _ _ _ ?_
        exact ⟨rfl, fun e9 => absurd e9 (by decide), rfl, z2_4, rfl, rfl, by first | trivial | omega | (dsimp only; omega)⟩
      · skip
        refine Exists.intro _ (And.intro (cw_o2 hI.1) ?_)
        refine Exists.intro _ (Exists.intro _ (And.intro (Or.inl (cw_a14 hI.1)) (And.intro (by omega) ?_)))
        refine And.intro (fun c6 => ?_) (fun c6 => ?_)
        · skip
          have dc6 := pm_neI c6
          refine hC.1 2 23 _ _ rfl _ _ _ _ _ ?_
          have k1 : (1 : Int32).toInt = 1 := rfl
          intro m7 em_23
          try have e7 : m7.toInt = (z3_4).toInt + (1) := by rw [em_23]; exact pm_addc _ _ (1) rfl (by omega) (by omega)
          exact ih4 z2_4 m7 (by omega) (by omega)
        · skip
          have dc6 : ((f 14 (z3_4).toInt.toNat)).toInt = (x1 : Int32).toInt := congrArg Int32.toInt c6
          have k1 : (1 : Int32).toInt = 1 := rfl
          intro m8 em_20
          try have e8 : m8.toInt = (z2_4).toInt + (1) := by rw [em_20]; exact pm_addc _ _ (1) rfl (by omega) (by omega)
          refine hC.1 2 23 _ _ rfl _ _ _ _ _ ?_
          intro m9 em_23
          try have e9 : m9.toInt = (z3_4).toInt + (1) := by rw [em_23]; exact pm_addc _ _ (1) rfl (by omega) (by omega)
          exact ih4 m8 m9 (by omega) (by omega)
  exact lp3 (200 - (0 : Int32).toInt).toNat.succ (0 : Int32) (0 : Int32) (by omega) (by omega)

set_option maxRecDepth 100000 in
set_option maxHeartbeats 2000000 in
theorem c_X2_largerThanPart (hI : cw_I K nn dn q w e) (hs : cw_S v f) (x1 : Int32)  : pm_Mt l g 79 0 0 0 [.ref (q 2), .int x1] (cw A0 g K nn dn q w e v f) (md_Qp (cw A0 g K nn dn q w e v f) (fun r => True)) := by
  refine mt_X2_largerThanPart rfl (fun J hC => ?_)
  have hu1 := hI.2.1
  unfold cw_W at hu1
  have ro_nn : cw_ro K nn := hI.2.1.2.1
  have ro_dn : cw_ro K dn := hI.2.1.2.2.1
  have rg_x1 := pm_rng x1
  refine hC.1 0 0 _ _ rfl _ _ _ _ _ ?_
  have k0 : (0 : Int32).toInt = 0 := rfl
  have lp3 : ∀ (n : Nat) (z2_4 : Int32) (z3_4 : Int32), (0 ≤ z3_4.toInt ∧ z3_4.toInt ≤ 24) → 200 - z3_4.toInt < (n : Int) → J 4 [some (.ref (q 2)), some (.int x1), some (.int z2_4), some (.int z3_4)] [] (cw A0 g K nn dn q w e v f) 0 0 := by
    intro n
    induction n with
    | zero =>
      intro z2_4 z3_4 j0_4 j1_4
      omega
    | succ n ih4 =>
      intro z2_4 z3_4 j0_4 j1_4
      refine hC.1 1 4 _ _ rfl _ _ _ _ _ ?_
      have k24 : (24 : Int32).toInt = 24 := rfl
      refine And.intro (fun c5 => ?_) (fun c5 => ?_)
      · skip
        refine hC.1 3 41 _ _ rfl _ _ _ _ _ ?_
        exact ⟨rfl, fun e9 => absurd e9 (by decide), rfl, z2_4, rfl, rfl, by first | trivial | omega | (dsimp only; omega)⟩
      · skip
        refine Exists.intro _ (And.intro (cw_o2 hI.1) ?_)
        refine Exists.intro _ (Exists.intro _ (And.intro (Or.inl (cw_a14 hI.1)) (And.intro (by omega) ?_)))
        refine Exists.intro _ (And.intro (cw_o2 hI.1) ?_)
        refine And.intro (fun c6 => ?_) (fun c6 => ?_)
        · skip
          refine hC.1 2 35 _ _ rfl _ _ _ _ _ ?_
          have k1 : (1 : Int32).toInt = 1 := rfl
          intro m7 em_35
          try have e7 : m7.toInt = (z3_4).toInt + (1) := by rw [em_35]; exact pm_addc _ _ (1) rfl (by omega) (by omega)
          exact ih4 z2_4 m7 (by omega) (by omega)
        · skip
          have k1 : (1 : Int32).toInt = 1 := rfl
          refine hC.1 2 35 _ _ rfl _ _ _ _ _ ?_
          intro m8 em_35
          try have e8 : m8.toInt = (z3_4).toInt + (1) := by rw [em_35]; exact pm_addc _ _ (1) rfl (by omega) (by omega)
          exact ih4 (z2_4 ||| ((1 : Int32) <<< (z3_4 &&& 31))) m8 (by omega) (by omega)
  exact lp3 (200 - (0 : Int32).toInt).toNat.succ (0 : Int32) (0 : Int32) (by omega) (by omega)

set_option maxRecDepth 100000 in
set_option maxHeartbeats 2000000 in
theorem c_X2_twosAlike (hI : cw_I K nn dn q w e) (hs : cw_S v f)   : pm_Mt l g 95 0 0 0 [.ref (q 2)] (cw A0 g K nn dn q w e v f) (md_Qp (cw A0 g K nn dn q w e v f) (fun r => True)) := by
  refine mt_X2_twosAlike rfl (fun J hC => ?_)
  have hu1 := hI.2.1
  unfold cw_W at hu1
  have ro_nn : cw_ro K nn := hI.2.1.2.1
  have ro_dn : cw_ro K dn := hI.2.1.2.2.1
  refine hC.1 0 0 _ _ rfl _ _ _ _ _ ?_
  have k0 : (0 : Int32).toInt = 0 := rfl
  have lp3 : ∀ (n : Nat) (z1_4 : Int32) (z2_4 : Int32), (0 ≤ z2_4.toInt ∧ z2_4.toInt ≤ 24) → 200 - z2_4.toInt < (n : Int) → J 4 [some (.ref (q 2)), some (.int z1_4), some (.int z2_4)] [] (cw A0 g K nn dn q w e v f) 0 0 := by
    intro n
    induction n with
    | zero =>
      intro z1_4 z2_4 j0_4 j1_4
      omega
    | succ n ih4 =>
      intro z1_4 z2_4 j0_4 j1_4
      refine hC.1 1 4 _ _ rfl _ _ _ _ _ ?_
      have k24 : (24 : Int32).toInt = 24 := rfl
      refine And.intro (fun c5 => ?_) (fun c5 => ?_)
      · skip
        refine hC.1 2 36 _ _ rfl _ _ _ _ _ ?_
        exact ⟨rfl, fun e9 => absurd e9 (by decide), rfl, z1_4, rfl, rfl, by first | trivial | omega | (dsimp only; omega)⟩
      · skip
        refine Exists.intro _ (And.intro (cw_o2 hI.1) ?_)
        refine Exists.intro _ (Exists.intro _ (And.intro (Or.inl (cw_a14 hI.1)) (And.intro (by omega) ?_)))
        refine Exists.intro _ (And.intro (cw_o2 hI.1) ?_)
        refine Exists.intro _ (Exists.intro _ (And.intro (Or.inl (cw_a14 hI.1)) (And.intro (by omega) ?_)))
        have k1 : (1 : Int32).toInt = 1 := rfl
        intro m6 em_24
        try have e6 : m6.toInt = ((f 14 (z2_4).toInt.toNat)).toInt - (1) := by rw [em_24]; exact pm_subc _ _ (1) rfl (by omega) (by omega)
        intro m7 em_25
        have k2 : (2 : Int32).toInt = 2 := rfl
        refine And.intro (by decide) ?_
        intro m8 em_27
        intro m9 em_28
        try have e9 : m9.toInt = (z1_4).toInt + (m8).toInt := by rw [em_28]; exact pm_add _ _ (by omega) (by omega)
        intro m10 em_30
        try have e10 : m10.toInt = (z2_4).toInt + (1) := by rw [em_30]; exact pm_addc _ _ (1) rfl (by omega) (by omega)
        exact ih4 m9 m10 (by omega) (by omega)
  exact lp3 (200 - (0 : Int32).toInt).toNat.succ (0 : Int32) (0 : Int32) (by omega) (by omega)

end
