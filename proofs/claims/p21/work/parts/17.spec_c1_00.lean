section
variable {l : Launch} {g : pm_G} {A0 : pm_H} {K nn dn : Nat} {q : Nat → Nat} {w : Nat → Int32} {e : Nat → Nat → Int32} {v : Nat → Int32} {f : Nat → Nat → Int32}
set_option maxRecDepth 100000 in
set_option maxHeartbeats 2000000 in
theorem c_J9_max_7cf53 (A : pm_H) (x0 : Int32) (x1 : Int32)  : pm_Mt l g 51 0 0 0 [.int x0, .int x1] A (md_Qp A (fun r => (x1.toInt ≤ x0.toInt ∧ r.toInt = x0.toInt) ∨ (x0.toInt < x1.toInt ∧ r.toInt = x1.toInt))) := by
  refine mt_J9_max_7cf53 rfl (fun J hC => ?_)
  have rg_x0 := pm_rng x0
  have rg_x1 := pm_rng x1
  refine hC.1 0 0 _ _ rfl _ _ _ _ _ ?_
  refine And.intro (fun c1 => ?_) (fun c1 => ?_)
  · skip
    refine hC.1 1 9 _ _ rfl _ _ _ _ _ ?_
    refine hC.1 2 10 _ _ rfl _ _ _ _ _ ?_
    exact ⟨rfl, fun e9 => absurd e9 (by decide), rfl, x1, rfl, rfl, by first | trivial | omega | (dsimp only; omega)⟩
  · skip
    refine hC.1 2 10 _ _ rfl _ _ _ _ _ ?_
    exact ⟨rfl, fun e9 => absurd e9 (by decide), rfl, x0, rfl, rfl, by first | trivial | omega | (dsimp only; omega)⟩

set_option maxRecDepth 100000 in
set_option maxHeartbeats 2000000 in
theorem c_J9_min_7cf53 (A : pm_H) (x0 : Int32) (x1 : Int32)  : pm_Mt l g 87 0 0 0 [.int x0, .int x1] A (md_Qp A (fun r => (x1.toInt ≤ x0.toInt ∧ r.toInt = x1.toInt) ∨ (x0.toInt ≤ x1.toInt ∧ r.toInt = x0.toInt))) := by
  refine mt_J9_min_7cf53 rfl (fun J hC => ?_)
  have rg_x0 := pm_rng x0
  have rg_x1 := pm_rng x1
  refine hC.1 0 0 _ _ rfl _ _ _ _ _ ?_
  refine And.intro (fun c1 => ?_) (fun c1 => ?_)
  · skip
    refine hC.1 1 9 _ _ rfl _ _ _ _ _ ?_
    refine hC.1 2 10 _ _ rfl _ _ _ _ _ ?_
    exact ⟨rfl, fun e9 => absurd e9 (by decide), rfl, x1, rfl, rfl, by first | trivial | omega | (dsimp only; omega)⟩
  · skip
    refine hC.1 2 10 _ _ rfl _ _ _ _ _ ?_
    exact ⟨rfl, fun e9 => absurd e9 (by decide), rfl, x0, rfl, rfl, by first | trivial | omega | (dsimp only; omega)⟩

set_option maxRecDepth 100000 in
set_option maxHeartbeats 2000000 in
theorem c_J9_abs_0f7a4 (A : pm_H) (x0 : Int32)  : pm_Mt l g 70 0 0 0 [.int x0] A (md_Qp A (fun r => -2147483647 ≤ x0.toInt → 0 ≤ r.toInt ∧ (r.toInt = x0.toInt ∨ r.toInt = - x0.toInt))) := by
  refine mt_J9_abs_0f7a4 rfl (fun J hC => ?_)
  have rg_x0 := pm_rng x0
  refine hC.1 0 0 _ _ rfl _ _ _ _ _ ?_
  refine And.intro (fun c1 => ?_) (fun c1 => ?_)
  · skip
    refine hC.1 1 9 _ _ rfl _ _ _ _ _ ?_
    refine hC.1 2 10 _ _ rfl _ _ _ _ _ ?_
    exact ⟨rfl, fun e9 => absurd e9 (by decide), rfl, x0, rfl, rfl, by intro h9; first | omega | exact ⟨by rw [em_5, pm_neg _ (by omega)]; omega, Or.inr (by rw [em_5, pm_neg _ (by omega)])⟩⟩
  · skip
    intro m2 em_5
    refine hC.1 2 10 _ _ rfl _ _ _ _ _ ?_
    exact ⟨rfl, fun e9 => absurd e9 (by decide), rfl, m2, rfl, rfl, by intro h9; first | omega | exact ⟨by rw [em_5, pm_neg _ (by omega)]; omega, Or.inr (by rw [em_5, pm_neg _ (by omega)])⟩⟩

set_option maxRecDepth 100000 in
set_option maxHeartbeats 2000000 in
theorem c_J9_floorMod_7cf53 (A : pm_H) (x0 : Int32) (x1 : Int32) (p0 : 0 ≤ x0.toInt) (p1 : 0 < x1.toInt) : pm_Mt l g 17 0 0 0 [.int x0, .int x1] A (md_Qp A (fun r => 0 ≤ r.toInt ∧ r.toInt < x1.toInt ∧ r.toInt = x0.toInt % x1.toInt)) := by
  refine mt_J9_floorMod_7cf53 rfl (fun J hC => ?_)
  have rg_x0 := pm_rng x0
  have rg_x1 := pm_rng x1
  have xx9 := pm_xor0 x0 x1 p0 (by omega)
  refine hC.1 0 0 _ _ rfl _ _ _ _ _ ?_
  refine And.intro (fun e9 => by have e8 := congrArg Int32.toInt e9; have e7 : (0 : Int32).toInt = 0 := rfl; omega) ?_
  intro m1 em_2
  try have e1 := pm_rem x0 x1 (by omega) (by omega)
  try rw [← em_2] at e1
  refine And.intro (fun c2 => ?_) (fun c2 => ?_)
  · skip
    refine hC.1 1 18 _ _ rfl _ _ _ _ _ ?_
    exact ⟨rfl, fun e9 => absurd e9 (by decide), rfl, m1, rfl, rfl, by first | exact absurd xx9 (by omega) | omega | (exact ⟨by omega, by omega, by assumption⟩)⟩
  · skip
    refine And.intro (fun c3 => ?_) (fun c3 => ?_)
    · skip
      have dc3 : (m1).toInt = (0 : Int32).toInt := congrArg Int32.toInt c3
      have k0 : (0 : Int32).toInt = 0 := rfl
      refine hC.1 1 18 _ _ rfl _ _ _ _ _ ?_
      exact ⟨rfl, fun e9 => absurd e9 (by decide), rfl, m1, rfl, rfl, by first | exact absurd xx9 (by omega) | omega | (exact ⟨by omega, by omega, by assumption⟩)⟩
    · skip
      have dc3 := pm_neI c3
      have k0 : (0 : Int32).toInt = 0 := rfl
      intro m4 em_16
      try have e4 : m4.toInt = (m1).toInt + (x1).toInt := by rw [em_16]; exact pm_add _ _ (by omega) (by omega)
      exact ⟨rfl, fun e9 => absurd e9 (by decide), rfl, m4, rfl, rfl, by first | exact absurd xx9 (by omega) | omega | (exact ⟨by omega, by omega, by assumption⟩)⟩

set_option maxRecDepth 100000 in
set_option maxHeartbeats 2000000 in
theorem c_J6_bitCount_0f7a4 (A : pm_H) (x0 : Int32)  : pm_Mt l g 75 0 0 0 [.int x0] A (md_Qp A (fun r => True)) := by
  refine mt_J6_bitCount_0f7a4 rfl (fun J hC => ?_)
  have rg_x0 := pm_rng x0
  refine hC.1 0 0 _ _ rfl _ _ _ _ _ ?_
  have k1 : (1 : Int32).toInt = 1 := rfl
  have k1431655765 : (1431655765 : Int32).toInt = 1431655765 := rfl
  intro m1 em_8
  try have e1 : m1.toInt = (x0).toInt - ((((x0).toUInt32 >>> (((1 : Int32)).toUInt32 &&& Int32.toUInt32 31)).toInt32 &&& (1431655765 : Int32))).toInt := by rw [em_8]; exact pm_sub _ _ (by omega) (by omega)
  have k858993459 : (858993459 : Int32).toInt = 858993459 := rfl
  have k2 : (2 : Int32).toInt = 2 := rfl
  intro m2 em_22
  try have e2 : m2.toInt = ((m1 &&& (858993459 : Int32))).toInt + ((((m1).toUInt32 >>> (((2 : Int32)).toUInt32 &&& Int32.toUInt32 31)).toInt32 &&& (858993459 : Int32))).toInt := by rw [em_22]; exact pm_add _ _ (by omega) (by omega)
  have k4 : (4 : Int32).toInt = 4 := rfl
  intro m3 em_28
  try have e3 : m3.toInt = (m2).toInt + (((m2).toUInt32 >>> (((4 : Int32)).toUInt32 &&& Int32.toUInt32 31)).toInt32).toInt := by rw [em_28]; exact pm_add _ _ (by omega) (by omega)
  have k252645135 : (252645135 : Int32).toInt = 252645135 := rfl
  have k8 : (8 : Int32).toInt = 8 := rfl
  intro m4 em_39
  try have e4 : m4.toInt = ((m3 &&& (252645135 : Int32))).toInt + ((((m3 &&& (252645135 : Int32))).toUInt32 >>> (((8 : Int32)).toUInt32 &&& Int32.toUInt32 31)).toInt32).toInt := by rw [em_39]; exact pm_add _ _ (by omega) (by omega)
  have k16 : (16 : Int32).toInt = 16 := rfl
  intro m5 em_46
  try have e5 : m5.toInt = (m4).toInt + (((m4).toUInt32 >>> (((16 : Int32)).toUInt32 &&& Int32.toUInt32 31)).toInt32).toInt := by rw [em_46]; exact pm_add _ _ (by omega) (by omega)
  have k63 : (63 : Int32).toInt = 63 := rfl
  exact ⟨rfl, fun e9 => absurd e9 (by decide), rfl, (m5 &&& (63 : Int32)), rfl, rfl, by first | trivial | omega | (dsimp only; omega)⟩

set_option maxRecDepth 100000 in
set_option maxHeartbeats 2000000 in
theorem c_X10_isColour (A : pm_H) (x0 : Int32)  : pm_Mt l g 15 0 0 0 [.int x0] A (md_Qp A (fun r => (r = 1 ∧ (0 ≤ x0.toInt ∧ x0.toInt < 24)) ∨ (r = 0 ∧ (¬ (0 ≤ x0.toInt ∧ x0.toInt < 24))))) := by
  refine mt_X10_isColour rfl (fun J hC => ?_)
  have rg_x0 := pm_rng x0
  refine hC.1 0 0 _ _ rfl _ _ _ _ _ ?_
  refine And.intro (fun c1 => ?_) (fun c1 => ?_)
  · skip
    refine hC.1 1 14 _ _ rfl _ _ _ _ _ ?_
    have k0 : (0 : Int32).toInt = 0 := rfl
    refine hC.1 2 15 _ _ rfl _ _ _ _ _ ?_
    exact ⟨rfl, fun _ => (by decide), rfl, (0 : Int32), rfl, rfl, Or.inr ⟨rfl, by first | trivial | omega | (dsimp only; omega)⟩⟩
  · skip
    have k24 : (24 : Int32).toInt = 24 := rfl
    refine And.intro (fun c2 => ?_) (fun c2 => ?_)
    · skip
      refine hC.1 1 14 _ _ rfl _ _ _ _ _ ?_
      have k0 : (0 : Int32).toInt = 0 := rfl
      refine hC.1 2 15 _ _ rfl _ _ _ _ _ ?_
      exact ⟨rfl, fun _ => (by decide), rfl, (0 : Int32), rfl, rfl, Or.inr ⟨rfl, by first | trivial | omega | (dsimp only; omega)⟩⟩
    · skip
      have k1 : (1 : Int32).toInt = 1 := rfl
      refine hC.1 2 15 _ _ rfl _ _ _ _ _ ?_
      exact ⟨rfl, fun _ => (by decide), rfl, (1 : Int32), rfl, rfl, Or.inl ⟨rfl, by first | trivial | omega | (dsimp only; omega)⟩⟩

set_option maxRecDepth 100000 in
set_option maxHeartbeats 2000000 in
theorem c_X10_areUnlikeColours (A : pm_H) (x0 : Int32) (x1 : Int32)  : pm_Mt l g 38 1 0 0 [.int x0, .int x1] A (md_Qp A (fun r => (r = 1 ∧ ((0 ≤ x0.toInt ∧ x0.toInt < 24) ∧ 0 ≤ x1.toInt ∧ x1.toInt < 24)) ∨ (r = 0 ∧ (True)))) := by
  refine mt_X10_areUnlikeColours rfl (fun J hC => ?_)
  have rg_x0 := pm_rng x0
  have rg_x1 := pm_rng x1
  refine hC.1 0 0 _ _ rfl _ _ _ _ _ ?_
  refine Exists.intro _ (Exists.intro _ (Exists.intro _ (Exists.intro _ (And.intro (c_X10_isColour A x0 ) (And.intro rfl (fun r9 A1 h9 => ?_))))))
  rcases h9 with ⟨y2, rfl, rfl, ⟨rfl, by2⟩ | ⟨rfl, by2⟩⟩
  · skip
    have k1 : (1 : Int32).toInt = 1 := rfl
    refine And.intro (fun c9 => absurd c9 (by decide)) (fun _ => ?_)
    refine Exists.intro _ (Exists.intro _ (Exists.intro _ (Exists.intro _ (And.intro (c_X10_isColour A1 x1 ) (And.intro rfl (fun r9 A4 h9 => ?_))))))
    rcases h9 with ⟨y5, rfl, rfl, ⟨rfl, by5⟩ | ⟨rfl, by5⟩⟩
    · skip
      refine And.intro (fun c9 => absurd c9 (by decide)) (fun _ => ?_)
      refine And.intro (fun c7 => ?_) (fun c7 => ?_)
      · skip
        have dc7 : (x0).toInt = (x1 : Int32).toInt := congrArg Int32.toInt c7
        refine hC.1 1 23 _ _ rfl _ _ _ _ _ ?_
        have k0 : (0 : Int32).toInt = 0 := rfl
        refine hC.1 2 24 _ _ rfl _ _ _ _ _ ?_
        exact ⟨rfl, fun _ => (by decide), rfl, (0 : Int32), rfl, rfl, Or.inr ⟨rfl, by first | trivial | omega | (dsimp only; omega)⟩⟩
      · skip
        have dc7 := pm_neI c7
        refine hC.1 2 24 _ _ rfl _ _ _ _ _ ?_
        exact ⟨rfl, fun _ => (by decide), rfl, (1 : Int32), rfl, rfl, Or.inl ⟨rfl, by first | trivial | omega | (dsimp only; omega)⟩⟩
    · skip
      have k0 : (0 : Int32).toInt = 0 := rfl
      refine And.intro (fun _ => ?_) (fun c9 => absurd c9 (by decide))
      refine hC.1 1 23 _ _ rfl _ _ _ _ _ ?_
      refine hC.1 2 24 _ _ rfl _ _ _ _ _ ?_
      exact ⟨rfl, fun _ => (by decide), rfl, (0 : Int32), rfl, rfl, Or.inr ⟨rfl, by first | trivial | omega | (dsimp only; omega)⟩⟩
  · skip
    have k0 : (0 : Int32).toInt = 0 := rfl
    refine And.intro (fun _ => ?_) (fun c9 => absurd c9 (by decide))
    refine hC.1 1 23 _ _ rfl _ _ _ _ _ ?_
    refine hC.1 2 24 _ _ rfl _ _ _ _ _ ?_
    exact ⟨rfl, fun _ => (by decide), rfl, (0 : Int32), rfl, rfl, Or.inr ⟨rfl, by first | trivial | omega | (dsimp only; omega)⟩⟩

set_option maxRecDepth 100000 in
set_option maxHeartbeats 2000000 in
theorem c_X8_canBe (A : pm_H) (x0 : Int32) (x1 : Int32)  : pm_Mt l g 121 0 0 0 [.int x0, .int x1] A (md_Qp A (fun r => (r = 1 ∧ (1 ≤ x0.toInt ∧ x0.toInt ≤ 24)) ∨ (r = 0 ∧ (True)))) := by
  refine mt_X8_canBe rfl (fun J hC => ?_)
  have rg_x0 := pm_rng x0
  have rg_x1 := pm_rng x1
  refine hC.1 0 0 _ _ rfl _ _ _ _ _ ?_
  have k1 : (1 : Int32).toInt = 1 := rfl
  refine And.intro (fun c1 => ?_) (fun c1 => ?_)
  · skip
    refine hC.1 2 24 _ _ rfl _ _ _ _ _ ?_
    have k0 : (0 : Int32).toInt = 0 := rfl
    refine hC.1 3 25 _ _ rfl _ _ _ _ _ ?_
    exact ⟨rfl, fun _ => (by decide), rfl, (0 : Int32), rfl, rfl, Or.inr ⟨rfl, by first | trivial | omega | (dsimp only; omega)⟩⟩
  · skip
    have k24 : (24 : Int32).toInt = 24 := rfl
    refine And.intro (fun c2 => ?_) (fun c2 => ?_)
    · skip
      refine hC.1 2 24 _ _ rfl _ _ _ _ _ ?_
      have k0 : (0 : Int32).toInt = 0 := rfl
      refine hC.1 3 25 _ _ rfl _ _ _ _ _ ?_
      exact ⟨rfl, fun _ => (by decide), rfl, (0 : Int32), rfl, rfl, Or.inr ⟨rfl, by first | trivial | omega | (dsimp only; omega)⟩⟩
    · skip
      refine And.intro (fun c3 => ?_) (fun c3 => ?_)
      · skip
        have dc3 : (x1).toInt = (0 : Int32).toInt := congrArg Int32.toInt c3
        have k0 : (0 : Int32).toInt = 0 := rfl
        refine hC.1 1 20 _ _ rfl _ _ _ _ _ ?_
        refine hC.1 3 25 _ _ rfl _ _ _ _ _ ?_
        exact ⟨rfl, fun _ => (by decide), rfl, (1 : Int32), rfl, rfl, Or.inl ⟨rfl, by first | trivial | omega | (dsimp only; omega)⟩⟩
      · skip
        have dc3 := pm_neI c3
        have k0 : (0 : Int32).toInt = 0 := rfl
        refine And.intro (fun c4 => ?_) (fun c4 => ?_)
        · skip
          have dc4 := pm_neI c4
          refine hC.1 2 24 _ _ rfl _ _ _ _ _ ?_
          refine hC.1 3 25 _ _ rfl _ _ _ _ _ ?_
          exact ⟨rfl, fun _ => (by decide), rfl, (0 : Int32), rfl, rfl, Or.inr ⟨rfl, by first | trivial | omega | (dsimp only; omega)⟩⟩
        · skip
          have dc4 : (x1).toInt = ((1 : Int32) : Int32).toInt := congrArg Int32.toInt c4
          refine hC.1 1 20 _ _ rfl _ _ _ _ _ ?_
          refine hC.1 3 25 _ _ rfl _ _ _ _ _ ?_
          exact ⟨rfl, fun _ => (by decide), rfl, (1 : Int32), rfl, rfl, Or.inl ⟨rfl, by first | trivial | omega | (dsimp only; omega)⟩⟩

set_option maxRecDepth 100000 in
set_option maxHeartbeats 2000000 in
theorem c_X7_has (hI : cw_I K nn dn q w e) (hs : cw_S v f) {o0 : Nat} (ho0 : cw_ro K o0) (x1 : Int32)  : pm_Mt l g 19 0 0 0 [.ref (q o0), .int x1] (cw A0 g K nn dn q w e v f) (md_Qp (cw A0 g K nn dn q w e v f) (fun r => (r = 1 ∧ (0 ≤ x1.toInt ∧ x1.toInt < (w o0).toInt)) ∨ (r = 0 ∧ (¬ (0 ≤ x1.toInt ∧ x1.toInt < (w o0).toInt))))) := by
  refine mt_X7_has rfl (fun J hC => ?_)
  have hu1 := hI.2.1
  unfold cw_W at hu1
  have ro_nn : cw_ro K nn := hI.2.1.2.1
  have ro_dn : cw_ro K dn := hI.2.1.2.2.1
  have rg_x1 := pm_rng x1
  refine hC.1 0 0 _ _ rfl _ _ _ _ _ ?_
  refine And.intro (fun c2 => ?_) (fun c2 => ?_)
  · skip
    refine hC.1 1 16 _ _ rfl _ _ _ _ _ ?_
    have k0 : (0 : Int32).toInt = 0 := rfl
    refine hC.1 2 17 _ _ rfl _ _ _ _ _ ?_
    exact ⟨rfl, fun _ => (by decide), rfl, (0 : Int32), rfl, rfl, Or.inr ⟨rfl, by first | trivial | omega | (dsimp only; omega)⟩⟩
  · skip
    refine Exists.intro _ (And.intro (cw_ro_o hI.1 ho0) ?_)
    have z3 := cw_sz hI ho0
    refine And.intro (fun c4 => ?_) (fun c4 => ?_)
    · skip
      refine hC.1 1 16 _ _ rfl _ _ _ _ _ ?_
      have k0 : (0 : Int32).toInt = 0 := rfl
      refine hC.1 2 17 _ _ rfl _ _ _ _ _ ?_
      exact ⟨rfl, fun _ => (by decide), rfl, (0 : Int32), rfl, rfl, Or.inr ⟨rfl, by first | trivial | omega | (dsimp only; omega)⟩⟩
    · skip
      have k1 : (1 : Int32).toInt = 1 := rfl
      refine hC.1 2 17 _ _ rfl _ _ _ _ _ ?_
      exact ⟨rfl, fun _ => (by decide), rfl, (1 : Int32), rfl, rfl, Or.inl ⟨rfl, by first | trivial | omega | (dsimp only; omega)⟩⟩

set_option maxRecDepth 100000 in
set_option maxHeartbeats 2000000 in
theorem c_X7_isGap (hI : cw_I K nn dn q w e) (hs : cw_S v f) {o0 : Nat} (ho0 : cw_ro K o0) (x1 : Int32)  : pm_Mt l g 26 0 0 0 [.ref (q o0), .int x1] (cw A0 g K nn dn q w e v f) (md_Qp (cw A0 g K nn dn q w e v f) (fun r => (r = 1 ∧ (0 ≤ x1.toInt ∧ x1.toInt ≤ (w o0).toInt)) ∨ (r = 0 ∧ (¬ (0 ≤ x1.toInt ∧ x1.toInt ≤ (w o0).toInt))))) := by
  refine mt_X7_isGap rfl (fun J hC => ?_)
  have hu1 := hI.2.1
  unfold cw_W at hu1
  have ro_nn : cw_ro K nn := hI.2.1.2.1
  have ro_dn : cw_ro K dn := hI.2.1.2.2.1
  have rg_x1 := pm_rng x1
  refine hC.1 0 0 _ _ rfl _ _ _ _ _ ?_
  refine And.intro (fun c2 => ?_) (fun c2 => ?_)
  · skip
    refine hC.1 1 16 _ _ rfl _ _ _ _ _ ?_
    have k0 : (0 : Int32).toInt = 0 := rfl
    refine hC.1 2 17 _ _ rfl _ _ _ _ _ ?_
    exact ⟨rfl, fun _ => (by decide), rfl, (0 : Int32), rfl, rfl, Or.inr ⟨rfl, by first | trivial | omega | (dsimp only; omega)⟩⟩
  · skip
    refine Exists.intro _ (And.intro (cw_ro_o hI.1 ho0) ?_)
    have z3 := cw_sz hI ho0
    refine And.intro (fun c4 => ?_) (fun c4 => ?_)
    · skip
      refine hC.1 1 16 _ _ rfl _ _ _ _ _ ?_
      have k0 : (0 : Int32).toInt = 0 := rfl
      refine hC.1 2 17 _ _ rfl _ _ _ _ _ ?_
      exact ⟨rfl, fun _ => (by decide), rfl, (0 : Int32), rfl, rfl, Or.inr ⟨rfl, by first | trivial | omega | (dsimp only; omega)⟩⟩
    · skip
      have k1 : (1 : Int32).toInt = 1 := rfl
      refine hC.1 2 17 _ _ rfl _ _ _ _ _ ?_
      exact ⟨rfl, fun _ => (by decide), rfl, (1 : Int32), rfl, rfl, Or.inl ⟨rfl, by first | trivial | omega | (dsimp only; omega)⟩⟩

set_option maxRecDepth 100000 in
set_option maxHeartbeats 2000000 in
theorem c_X7_isSpan (hI : cw_I K nn dn q w e) (hs : cw_S v f) {o0 : Nat} (ho0 : cw_ro K o0) (x1 : Int32) (x2 : Int32)  : pm_Mt l g 14 0 0 0 [.ref (q o0), .int x1, .int x2] (cw A0 g K nn dn q w e v f) (md_Qp (cw A0 g K nn dn q w e v f) (fun r => (r = 1 ∧ (0 ≤ x1.toInt ∧ x1.toInt ≤ x2.toInt ∧ x2.toInt < (w o0).toInt)) ∨ (r = 0 ∧ (¬ (0 ≤ x1.toInt ∧ x1.toInt ≤ x2.toInt ∧ x2.toInt < (w o0).toInt))))) := by
  refine mt_X7_isSpan rfl (fun J hC => ?_)
  have hu1 := hI.2.1
  unfold cw_W at hu1
  have ro_nn : cw_ro K nn := hI.2.1.2.1
  have ro_dn : cw_ro K dn := hI.2.1.2.2.1
  have rg_x1 := pm_rng x1
  have rg_x2 := pm_rng x2
  refine hC.1 0 0 _ _ rfl _ _ _ _ _ ?_
  refine And.intro (fun c2 => ?_) (fun c2 => ?_)
  · skip
    refine hC.1 1 21 _ _ rfl _ _ _ _ _ ?_
    have k0 : (0 : Int32).toInt = 0 := rfl
    refine hC.1 2 22 _ _ rfl _ _ _ _ _ ?_
    exact ⟨rfl, fun _ => (by decide), rfl, (0 : Int32), rfl, rfl, Or.inr ⟨rfl, by first | trivial | omega | (dsimp only; omega)⟩⟩
  · skip
    refine And.intro (fun c3 => ?_) (fun c3 => ?_)
    · skip
      refine hC.1 1 21 _ _ rfl _ _ _ _ _ ?_
      have k0 : (0 : Int32).toInt = 0 := rfl
      refine hC.1 2 22 _ _ rfl _ _ _ _ _ ?_
      exact ⟨rfl, fun _ => (by decide), rfl, (0 : Int32), rfl, rfl, Or.inr ⟨rfl, by first | trivial | omega | (dsimp only; omega)⟩⟩
    · skip
      refine Exists.intro _ (And.intro (cw_ro_o hI.1 ho0) ?_)
      have z4 := cw_sz hI ho0
      refine And.intro (fun c5 => ?_) (fun c5 => ?_)
      · skip
        refine hC.1 1 21 _ _ rfl _ _ _ _ _ ?_
        have k0 : (0 : Int32).toInt = 0 := rfl
        refine hC.1 2 22 _ _ rfl _ _ _ _ _ ?_
        exact ⟨rfl, fun _ => (by decide), rfl, (0 : Int32), rfl, rfl, Or.inr ⟨rfl, by first | trivial | omega | (dsimp only; omega)⟩⟩
      · skip
        have k1 : (1 : Int32).toInt = 1 := rfl
        refine hC.1 2 22 _ _ rfl _ _ _ _ _ ?_
        exact ⟨rfl, fun _ => (by decide), rfl, (1 : Int32), rfl, rfl, Or.inl ⟨rfl, by first | trivial | omega | (dsimp only; omega)⟩⟩

set_option maxRecDepth 100000 in
set_option maxHeartbeats 2000000 in
theorem c_X7_nameAt (hI : cw_I K nn dn q w e) (hs : cw_S v f) {o0 : Nat} (ho0 : cw_ro K o0) (x1 : Int32)  : pm_Mt l g 21 1 0 0 [.ref (q o0), .int x1] (cw A0 g K nn dn q w e v f) (md_Qp (cw A0 g K nn dn q w e v f) (fun r => True)) := by
  refine mt_X7_nameAt rfl (fun J hC => ?_)
  have hu1 := hI.2.1
  unfold cw_W at hu1
  have ro_nn : cw_ro K nn := hI.2.1.2.1
  have ro_dn : cw_ro K dn := hI.2.1.2.2.1
  have rg_x1 := pm_rng x1
  have zz0 := cw_sz hI ho0
  refine hC.1 0 0 _ _ rfl _ _ _ _ _ ?_
  refine And.intro (Exists.intro _ (cw_ro_o hI.1 ho0)) (Exists.intro _ (Exists.intro _ (Exists.intro _ (Exists.intro _ (And.intro (c_X7_has hI hs ho0 x1 ) (And.intro rfl (fun r9 A9 h9 => ?_)))))))
  rcases h9 with ⟨y2, rfl, rfl, ⟨rfl, by2⟩ | ⟨rfl, by2⟩⟩
  · skip
    have k1 : (1 : Int32).toInt = 1 := rfl
    refine And.intro (fun c9 => absurd c9 (by decide)) (fun _ => ?_)
    refine Exists.intro _ (And.intro (cw_ro_o hI.1 ho0) ?_)
    refine Exists.intro _ (Exists.intro _ (And.intro (Or.inl (cw_ro_2 hI.1 ho0)) (And.intro (by omega) ?_)))
    refine hC.1 2 18 _ _ rfl _ _ _ _ _ ?_
    exact ⟨rfl, fun e9 => absurd e9 (by decide), rfl, (e (o0 + 2) (x1).toInt.toNat), rfl, rfl, by first | trivial | omega | (dsimp only; omega)⟩
  · skip
    have k0 : (0 : Int32).toInt = 0 := rfl
    refine And.intro (fun _ => ?_) (fun c9 => absurd c9 (by decide))
    refine hC.1 1 17 _ _ rfl _ _ _ _ _ ?_
    have km1 : (-1 : Int32).toInt = -1 := rfl
    refine hC.1 2 18 _ _ rfl _ _ _ _ _ ?_
    exact ⟨rfl, fun e9 => absurd e9 (by decide), rfl, (-1 : Int32), rfl, rfl, by first | trivial | omega | (dsimp only; omega)⟩

set_option maxRecDepth 100000 in
set_option maxHeartbeats 2000000 in
theorem c_X7_bondAt (hI : cw_I K nn dn q w e) (hs : cw_S v f) {o0 : Nat} (ho0 : cw_ro K o0) (x1 : Int32)  : pm_Mt l g 20 2 0 0 [.ref (q o0), .int x1] (cw A0 g K nn dn q w e v f) (md_Qp (cw A0 g K nn dn q w e v f) (fun r => True)) := by
  refine mt_X7_bondAt rfl (fun J hC => ?_)
  have hu1 := hI.2.1
  unfold cw_W at hu1
  have ro_nn : cw_ro K nn := hI.2.1.2.1
  have ro_dn : cw_ro K dn := hI.2.1.2.2.1
  have rg_x1 := pm_rng x1
  have zz0 := cw_sz hI ho0
  refine hC.1 0 0 _ _ rfl _ _ _ _ _ ?_
  refine And.intro (Exists.intro _ (cw_ro_o hI.1 ho0)) (Exists.intro _ (Exists.intro _ (Exists.intro _ (Exists.intro _ (And.intro (c_X7_has hI hs ho0 x1 ) (And.intro rfl (fun r9 A9 h9 => ?_)))))))
  rcases h9 with ⟨y2, rfl, rfl, ⟨rfl, by2⟩ | ⟨rfl, by2⟩⟩
  · skip
    have k1 : (1 : Int32).toInt = 1 := rfl
    refine And.intro (fun c9 => absurd c9 (by decide)) (fun _ => ?_)
    refine Exists.intro _ (And.intro (cw_ro_o hI.1 ho0) ?_)
    refine Exists.intro _ (Exists.intro _ (And.intro (Or.inl (cw_ro_3 hI.1 ho0)) (And.intro (by omega) ?_)))
    have w4 := cw_ahd hI ho0 (x1).toInt.toNat
    refine And.intro (Exists.intro _ (cw_ro_o hI.1 ho0)) (Exists.intro _ (Exists.intro _ (Exists.intro _ (Exists.intro _ (And.intro (c_X7_nameAt hI hs ho0 (e (o0 + 3) (x1).toInt.toNat) ) (And.intro rfl (fun r9 A9 h9 => ?_)))))))
    obtain ⟨y5, rfl, rfl, by5⟩ := h9
    refine hC.1 2 22 _ _ rfl _ _ _ _ _ ?_
    exact ⟨rfl, fun e9 => absurd e9 (by decide), rfl, y5, rfl, rfl, by first | trivial | omega | (dsimp only; omega)⟩
  · skip
    have k0 : (0 : Int32).toInt = 0 := rfl
    refine And.intro (fun _ => ?_) (fun c9 => absurd c9 (by decide))
    refine hC.1 1 21 _ _ rfl _ _ _ _ _ ?_
    have km1 : (-1 : Int32).toInt = -1 := rfl
    refine hC.1 2 22 _ _ rfl _ _ _ _ _ ?_
    exact ⟨rfl, fun e9 => absurd e9 (by decide), rfl, (-1 : Int32), rfl, rfl, by first | trivial | omega | (dsimp only; omega)⟩

set_option maxRecDepth 100000 in
set_option maxHeartbeats 2000000 in
theorem c_X7_tell (hI : cw_I K nn dn q w e) (hs : cw_S v f) {o0 : Nat} (ho0 : cw_ro K o0) (x1 : Int32) (x2 : Int32)  : pm_Mt l g 44 3 0 0 [.ref (q o0), .int x1, .int x2] (cw A0 g K nn dn q w e v f) (md_Qp (cw A0 g K nn dn q w e v f) (fun r => True)) := by
  refine mt_X7_tell rfl (fun J hC => ?_)
  have hu1 := hI.2.1
  unfold cw_W at hu1
  have ro_nn : cw_ro K nn := hI.2.1.2.1
  have ro_dn : cw_ro K dn := hI.2.1.2.2.1
  have rg_x1 := pm_rng x1
  have rg_x2 := pm_rng x2
  have zz0 := cw_sz hI ho0
  refine hC.1 0 0 _ _ rfl _ _ _ _ _ ?_
  refine And.intro (Exists.intro _ (cw_ro_o hI.1 ho0)) (Exists.intro _ (Exists.intro _ (Exists.intro _ (Exists.intro _ (And.intro (c_X7_has hI hs ho0 x1 ) (And.intro rfl (fun r9 A9 h9 => ?_)))))))
  rcases h9 with ⟨y2, rfl, rfl, ⟨rfl, by2⟩ | ⟨rfl, by2⟩⟩
  · skip
    have k1 : (1 : Int32).toInt = 1 := rfl
    refine And.intro (fun _ => ?_) (fun c9 => absurd c9 (by decide))
    refine hC.1 1 10 _ _ rfl _ _ _ _ _ ?_
    refine pm_swc 3 rfl (by decide) ?_ ?_
    · intro _
      refine hC.1 5 56 _ _ rfl _ _ _ _ _ ?_
      have km1 : (-1 : Int32).toInt = -1 := rfl
      exact ⟨rfl, fun e9 => absurd e9 (by decide), rfl, (-1 : Int32), rfl, rfl, by first | trivial | omega | (dsimp only; omega)⟩
    · intro i9 hi9 he9
      rcases (show i9 = 0 ∨ i9 = 1 ∨ i9 = 2 by omega) with rfl | rfl | rfl
      · skip
        refine hC.1 2 36 _ _ rfl _ _ _ _ _ ?_
        refine Exists.intro _ (And.intro (cw_ro_o hI.1 ho0) ?_)
        refine Exists.intro _ (Exists.intro _ (And.intro (Or.inl (cw_ro_1 hI.1 ho0)) (And.intro (by omega) ?_)))
        have w6 := cw_col hI ho0 (x1).toInt.toNat
        exact ⟨rfl, fun e9 => absurd e9 (by decide), rfl, (e (o0 + 1) (x1).toInt.toNat), rfl, rfl, by first | trivial | omega | (dsimp only; omega)⟩
      · skip
        refine hC.1 3 43 _ _ rfl _ _ _ _ _ ?_
        refine Exists.intro _ (And.intro (cw_ro_o hI.1 ho0) ?_)
        refine Exists.intro _ (Exists.intro _ (And.intro (Or.inl (cw_ro_2 hI.1 ho0)) (And.intro (by omega) ?_)))
        exact ⟨rfl, fun e9 => absurd e9 (by decide), rfl, (e (o0 + 2) (x1).toInt.toNat), rfl, rfl, by first | trivial | omega | (dsimp only; omega)⟩
      · skip
        refine hC.1 4 50 _ _ rfl _ _ _ _ _ ?_
        refine And.intro (Exists.intro _ (cw_ro_o hI.1 ho0)) (Exists.intro _ (Exists.intro _ (Exists.intro _ (Exists.intro _ (And.intro (c_X7_bondAt hI hs ho0 x1 ) (And.intro rfl (fun r9 A9 h9 => ?_)))))))
        obtain ⟨y7, rfl, rfl, by7⟩ := h9
        exact ⟨rfl, fun e9 => absurd e9 (by decide), rfl, y7, rfl, rfl, by first | trivial | omega | (dsimp only; omega)⟩
  · skip
    have k0 : (0 : Int32).toInt = 0 := rfl
    refine And.intro (fun c9 => absurd c9 (by decide)) (fun _ => ?_)
    have km1 : (-1 : Int32).toInt = -1 := rfl
    exact ⟨rfl, fun e9 => absurd e9 (by decide), rfl, (-1 : Int32), rfl, rfl, by first | trivial | omega | (dsimp only; omega)⟩

set_option maxRecDepth 100000 in
set_option maxHeartbeats 2000000 in
theorem c_X7_placeOf (hI : cw_I K nn dn q w e) (hs : cw_S v f) {o0 : Nat} (ho0 : cw_ro K o0) (x1 : Int32)  : pm_Mt l g 46 0 0 0 [.ref (q o0), .int x1] (cw A0 g K nn dn q w e v f) (md_Qp (cw A0 g K nn dn q w e v f) (fun r => -1 ≤ r.toInt ∧ r.toInt < (w o0).toInt)) := by
  refine mt_X7_placeOf rfl (fun J hC => ?_)
  have hu1 := hI.2.1
  unfold cw_W at hu1
  have ro_nn : cw_ro K nn := hI.2.1.2.1
  have ro_dn : cw_ro K dn := hI.2.1.2.2.1
  have rg_x1 := pm_rng x1
  have zz0 := cw_sz hI ho0
  refine hC.1 0 0 _ _ rfl _ _ _ _ _ ?_
  have k0 : (0 : Int32).toInt = 0 := rfl
  have lp3 : ∀ (n : Nat) (z2_2 : Int32), (0 ≤ z2_2.toInt ∧ z2_2.toInt ≤ (w o0).toInt) → 200 - z2_2.toInt < (n : Int) → J 2 [some (.ref (q o0)), some (.int x1), some (.int z2_2)] [] (cw A0 g K nn dn q w e v f) 0 0 := by
    intro n
    induction n with
    | zero =>
      intro z2_2 j0_2 j1_2
      omega
    | succ n ih4 =>
      intro z2_2 j0_2 j1_2
      refine hC.1 1 2 _ _ rfl _ _ _ _ _ ?_
      refine Exists.intro _ (And.intro (cw_ro_o hI.1 ho0) ?_)
      have z5 := cw_sz hI ho0
      refine And.intro (fun c6 => ?_) (fun c6 => ?_)
      · skip
        refine hC.1 3 28 _ _ rfl _ _ _ _ _ ?_
        have km1 : (-1 : Int32).toInt = -1 := rfl
        exact ⟨rfl, fun e9 => absurd e9 (by decide), rfl, (-1 : Int32), rfl, rfl, by first | trivial | omega | (dsimp only; omega)⟩
      · skip
        refine Exists.intro _ (And.intro (cw_ro_o hI.1 ho0) ?_)
        refine Exists.intro _ (Exists.intro _ (And.intro (Or.inl (cw_ro_2 hI.1 ho0)) (And.intro (by omega) ?_)))
        refine And.intro (fun c7 => ?_) (fun c7 => ?_)
        · skip
          have dc7 := pm_neI c7
          refine hC.1 2 22 _ _ rfl _ _ _ _ _ ?_
          have k1 : (1 : Int32).toInt = 1 := rfl
          intro m8 em_22
          try have e8 : m8.toInt = (z2_2).toInt + (1) := by rw [em_22]; exact pm_addc _ _ (1) rfl (by omega) (by omega)
          exact ih4 m8 (by omega) (by omega)
        · skip
          have dc7 : ((e (o0 + 2) (z2_2).toInt.toNat)).toInt = (x1 : Int32).toInt := congrArg Int32.toInt c7
          exact ⟨rfl, fun e9 => absurd e9 (by decide), rfl, z2_2, rfl, rfl, by first | trivial | omega | (dsimp only; omega)⟩
  exact lp3 (200 - (0 : Int32).toInt).toNat.succ (0 : Int32) (by omega) (by omega)

set_option maxRecDepth 100000 in
set_option maxHeartbeats 2000000 in
theorem c_X7_hasName (hI : cw_I K nn dn q w e) (hs : cw_S v f) {o0 : Nat} (ho0 : cw_ro K o0) (x1 : Int32)  : pm_Mt l g 154 1 0 0 [.ref (q o0), .int x1] (cw A0 g K nn dn q w e v f) (md_Qp (cw A0 g K nn dn q w e v f) (fun r => (r = 1 ∧ (True)) ∨ (r = 0 ∧ (True)))) := by
  refine mt_X7_hasName rfl (fun J hC => ?_)
  have hu1 := hI.2.1
  unfold cw_W at hu1
  have ro_nn : cw_ro K nn := hI.2.1.2.1
  have ro_dn : cw_ro K dn := hI.2.1.2.2.1
  have rg_x1 := pm_rng x1
  refine hC.1 0 0 _ _ rfl _ _ _ _ _ ?_
  refine And.intro (Exists.intro _ (cw_ro_o hI.1 ho0)) (Exists.intro _ (Exists.intro _ (Exists.intro _ (Exists.intro _ (And.intro (c_X7_placeOf hI hs ho0 x1 ) (And.intro rfl (fun r9 A9 h9 => ?_)))))))
  obtain ⟨y2, rfl, rfl, by2⟩ := h9
  have km1 : (-1 : Int32).toInt = -1 := rfl
  refine And.intro (fun c4 => ?_) (fun c4 => ?_)
  · skip
    have dc4 : (y2).toInt = ((-1 : Int32) : Int32).toInt := congrArg Int32.toInt c4
    refine hC.1 1 13 _ _ rfl _ _ _ _ _ ?_
    have k0 : (0 : Int32).toInt = 0 := rfl
    refine hC.1 2 14 _ _ rfl _ _ _ _ _ ?_
    exact ⟨rfl, fun _ => (by decide), rfl, (0 : Int32), rfl, rfl, Or.inr ⟨rfl, by first | trivial | omega | (dsimp only; omega)⟩⟩
  · skip
    have dc4 := pm_neI c4
    have k1 : (1 : Int32).toInt = 1 := rfl
    refine hC.1 2 14 _ _ rfl _ _ _ _ _ ?_
    exact ⟨rfl, fun _ => (by decide), rfl, (1 : Int32), rfl, rfl, Or.inl ⟨rfl, by first | trivial | omega | (dsimp only; omega)⟩⟩

end
