section
variable {l : Launch} {g : pm_G} {A0 : pm_H} {K nn dn : Nat} {q : Nat → Nat} {w : Nat → Int32} {e : Nat → Nat → Int32} {v : Nat → Int32} {f : Nat → Nat → Int32}
set_option maxRecDepth 100000 in
set_option maxHeartbeats 2000000 in
theorem c_J9_max_7cf53 (A : pm_H) (x0 : Int32) (x1 : Int32)  : pm_Mt l g 51 0 0 0 [.int x0, .int x1] A (md_Qp A (fun r => (x1.toInt ≤ x0.toInt ∧ r.toInt = x0.toInt) ∨ (x0.toInt < x1.toInt ∧ r.toInt = x1.toInt))) := by
  refine mt_J9_max_7cf53 rfl (fun J hC => ?_)
  have rg_x0 := pm_rng x0
  have rg_x1 := pm_rng x1
  refine hC.1 0 0 _ _ rfl _ _ _ _ _ ?_
  refine And.intro (fun c1 => ?_) (fun c1 => ?_)
  · skip
    refine hC.1 1 9 _ _ rfl _ _ _ _ _ ?_
    refine hC.1 2 10 _ _ rfl _ _ _ _ _ ?_
    exact ⟨rfl, fun e9 => absurd e9 (by decide), rfl, x1, rfl, rfl, by first | omega | (dsimp only; omega) | trivial⟩
  · skip
    refine hC.1 2 10 _ _ rfl _ _ _ _ _ ?_
    exact ⟨rfl, fun e9 => absurd e9 (by decide), rfl, x0, rfl, rfl, by first | omega | (dsimp only; omega) | trivial⟩

set_option maxRecDepth 100000 in
set_option maxHeartbeats 2000000 in
theorem c_J9_min_7cf53 (A : pm_H) (x0 : Int32) (x1 : Int32)  : pm_Mt l g 87 0 0 0 [.int x0, .int x1] A (md_Qp A (fun r => (x1.toInt ≤ x0.toInt ∧ r.toInt = x1.toInt) ∨ (x0.toInt ≤ x1.toInt ∧ r.toInt = x0.toInt))) := by
  refine mt_J9_min_7cf53 rfl (fun J hC => ?_)
  have rg_x0 := pm_rng x0
  have rg_x1 := pm_rng x1
  refine hC.1 0 0 _ _ rfl _ _ _ _ _ ?_
  refine And.intro (fun c1 => ?_) (fun c1 => ?_)
  · skip
    refine hC.1 1 9 _ _ rfl _ _ _ _ _ ?_
    refine hC.1 2 10 _ _ rfl _ _ _ _ _ ?_
    exact ⟨rfl, fun e9 => absurd e9 (by decide), rfl, x1, rfl, rfl, by first | omega | (dsimp only; omega) | trivial⟩
  · skip
    refine hC.1 2 10 _ _ rfl _ _ _ _ _ ?_
    exact ⟨rfl, fun e9 => absurd e9 (by decide), rfl, x0, rfl, rfl, by first | omega | (dsimp only; omega) | trivial⟩

set_option maxRecDepth 100000 in
set_option maxHeartbeats 2000000 in
theorem c_J9_abs_0f7a4 (A : pm_H) (x0 : Int32)  : pm_Mt l g 70 0 0 0 [.int x0] A (md_Qp A (fun r => -2147483647 ≤ x0.toInt → 0 ≤ r.toInt ∧ (r.toInt = x0.toInt ∨ r.toInt = - x0.toInt))) := by
  refine mt_J9_abs_0f7a4 rfl (fun J hC => ?_)
  have rg_x0 := pm_rng x0
  refine hC.1 0 0 _ _ rfl _ _ _ _ _ ?_
  refine And.intro (fun c1 => ?_) (fun c1 => ?_)
  · skip
    refine hC.1 1 9 _ _ rfl _ _ _ _ _ ?_
    refine hC.1 2 10 _ _ rfl _ _ _ _ _ ?_
    exact ⟨rfl, fun e9 => absurd e9 (by decide), rfl, x0, rfl, rfl, by intro h9; first | omega | exact ⟨by rw [em_5, pm_neg _ (by omega)]; omega, Or.inr (by rw [em_5, pm_neg _ (by omega)])⟩⟩
  · skip
    intro m2 em_5
    refine hC.1 2 10 _ _ rfl _ _ _ _ _ ?_
    exact ⟨rfl, fun e9 => absurd e9 (by decide), rfl, m2, rfl, rfl, by intro h9; first | omega | exact ⟨by rw [em_5, pm_neg _ (by omega)]; omega, Or.inr (by rw [em_5, pm_neg _ (by omega)])⟩⟩

set_option maxRecDepth 100000 in
set_option maxHeartbeats 2000000 in
theorem c_J9_floorMod_7cf53 (A : pm_H) (x0 : Int32) (x1 : Int32) (p0 : 0 ≤ x0.toInt) (p1 : 0 < x1.toInt) : pm_Mt l g 17 0 0 0 [.int x0, .int x1] A (md_Qp A (fun r => 0 ≤ r.toInt ∧ r.toInt < x1.toInt ∧ r.toInt = x0.toInt % x1.toInt)) := by
  refine mt_J9_floorMod_7cf53 rfl (fun J hC => ?_)
  have rg_x0 := pm_rng x0
  have rg_x1 := pm_rng x1
  have xx9 := pm_xor0 x0 x1 p0 (by omega)
  refine hC.1 0 0 _ _ rfl _ _ _ _ _ ?_
  refine And.intro (fun e9 => by have e8 := congrArg Int32.toInt e9; have e7 : (0 : Int32).toInt = 0 := rfl; omega) ?_
  intro m1 em_2
  try have e1 := pm_rem x0 x1 (by omega) (by omega)
  try rw [← em_2] at e1
  refine And.intro (fun c2 => ?_) (fun c2 => ?_)
  · skip
    refine hC.1 1 18 _ _ rfl _ _ _ _ _ ?_
    exact ⟨rfl, fun e9 => absurd e9 (by decide), rfl, m1, rfl, rfl, by first | exact absurd xx9 (by omega) | omega | (exact ⟨by omega, by omega, by assumption⟩)⟩
  · skip
    refine And.intro (fun c3 => ?_) (fun c3 => ?_)
    · skip
      have dc3 : (m1).toInt = (0 : Int32).toInt := congrArg Int32.toInt c3
      have k0 : (0 : Int32).toInt = 0 := rfl
      refine hC.1 1 18 _ _ rfl _ _ _ _ _ ?_
      exact ⟨rfl, fun e9 => absurd e9 (by decide), rfl, m1, rfl, rfl, by first | exact absurd xx9 (by omega) | omega | (exact ⟨by omega, by omega, by assumption⟩)⟩
    · skip
      have dc3 := pm_neI c3
      have k0 : (0 : Int32).toInt = 0 := rfl
      intro m4 em_16
      try have e4 : m4.toInt = (m1).toInt + (x1).toInt := by rw [em_16]; exact pm_add _ _ (by omega) (by omega)
      exact ⟨rfl, fun e9 => absurd e9 (by decide), rfl, m4, rfl, rfl, by first | exact absurd xx9 (by omega) | omega | (exact ⟨by omega, by omega, by assumption⟩)⟩

set_option maxRecDepth 100000 in
set_option maxHeartbeats 2000000 in
theorem c_J6_bitCount_0f7a4 (A : pm_H) (x0 : Int32)  : pm_Mt l g 75 0 0 0 [.int x0] A (md_Qp A (fun r => True)) := by
  refine mt_J6_bitCount_0f7a4 rfl (fun J hC => ?_)
  have rg_x0 := pm_rng x0
  refine hC.1 0 0 _ _ rfl _ _ _ _ _ ?_
  have k1 : (1 : Int32).toInt = 1 := rfl
  have k1431655765 : (1431655765 : Int32).toInt = 1431655765 := rfl
  intro m1 em_8
  try have e1 : m1.toInt = (x0).toInt - ((((x0).toUInt32 >>> (((1 : Int32)).toUInt32 &&& Int32.toUInt32 31)).toInt32 &&& (1431655765 : Int32))).toInt := by rw [em_8]; exact pm_sub _ _ (by omega) (by omega)
  have k858993459 : (858993459 : Int32).toInt = 858993459 := rfl
  have k2 : (2 : Int32).toInt = 2 := rfl
  intro m2 em_22
  try have e2 : m2.toInt = ((m1 &&& (858993459 : Int32))).toInt + ((((m1).toUInt32 >>> (((2 : Int32)).toUInt32 &&& Int32.toUInt32 31)).toInt32 &&& (858993459 : Int32))).toInt := by rw [em_22]; exact pm_add _ _ (by omega) (by omega)
  have k4 : (4 : Int32).toInt = 4 := rfl
  intro m3 em_28
  try have e3 : m3.toInt = (m2).toInt + (((m2).toUInt32 >>> (((4 : Int32)).toUInt32 &&& Int32.toUInt32 31)).toInt32).toInt := by rw [em_28]; exact pm_add _ _ (by omega) (by omega)
  have k252645135 : (252645135 : Int32).toInt = 252645135 := rfl
  have k8 : (8 : Int32).toInt = 8 := rfl
  intro m4 em_39
  try have e4 : m4.toInt = ((m3 &&& (252645135 : Int32))).toInt + ((((m3 &&& (252645135 : Int32))).toUInt32 >>> (((8 : Int32)).toUInt32 &&& Int32.toUInt32 31)).toInt32).toInt := by rw [em_39]; exact pm_add _ _ (by omega) (by omega)
  have k16 : (16 : Int32).toInt = 16 := rfl
  intro m5 em_46
  try have e5 : m5.toInt = (m4).toInt + (((m4).toUInt32 >>> (((16 : Int32)).toUInt32 &&& Int32.toUInt32 31)).toInt32).toInt := by rw [em_46]; exact pm_add _ _ (by omega) (by omega)
  have k63 : (63 : Int32).toInt = 63 := rfl
  exact ⟨rfl, fun e9 => absurd e9 (by decide), rfl, (m5 &&& (63 : Int32)), rfl, rfl, by exact True.intro⟩

set_option maxRecDepth 100000 in
set_option maxHeartbeats 2000000 in
theorem c_X10_isColour (A : pm_H) (x0 : Int32)  : pm_Mt l g 15 0 0 0 [.int x0] A (md_Qp A (fun r => (r = 1 ∧ (0 ≤ x0.toInt ∧ x0.toInt < 24)) ∨ (r = 0 ∧ (¬ (0 ≤ x0.toInt ∧ x0.toInt < 24))))) := by
  refine mt_X10_isColour rfl (fun J hC => ?_)
  have rg_x0 := pm_rng x0
  refine hC.1 0 0 _ _ rfl _ _ _ _ _ ?_
  refine And.intro (fun c1 => ?_) (fun c1 => ?_)
  · skip
    refine hC.1 1 14 _ _ rfl _ _ _ _ _ ?_
    have k0 : (0 : Int32).toInt = 0 := rfl
    refine hC.1 2 15 _ _ rfl _ _ _ _ _ ?_
    exact ⟨rfl, fun _ => (by decide), rfl, (0 : Int32), rfl, rfl, Or.inr ⟨rfl, by first | omega | (dsimp only; omega) | trivial⟩⟩
  · skip
    have k24 : (24 : Int32).toInt = 24 := rfl
    refine And.intro (fun c2 => ?_) (fun c2 => ?_)
    · skip
      refine hC.1 1 14 _ _ rfl _ _ _ _ _ ?_
      have k0 : (0 : Int32).toInt = 0 := rfl
      refine hC.1 2 15 _ _ rfl _ _ _ _ _ ?_
      exact ⟨rfl, fun _ => (by decide), rfl, (0 : Int32), rfl, rfl, Or.inr ⟨rfl, by first | omega | (dsimp only; omega) | trivial⟩⟩
    · skip
      have k1 : (1 : Int32).toInt = 1 := rfl
      refine hC.1 2 15 _ _ rfl _ _ _ _ _ ?_
      exact ⟨rfl, fun _ => (by decide), rfl, (1 : Int32), rfl, rfl, Or.inl ⟨rfl, by first | omega | (dsimp only; omega) | trivial⟩⟩

end
