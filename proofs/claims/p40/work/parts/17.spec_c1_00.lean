section
section
variable {l : Launch} {g : pm_G} {A0 : pm_H} {K nn dn : Nat} {q : Nat → Nat} {w : Nat → Int32} {e : Nat → Nat → Int32} {v : Nat → Int32} {f : Nat → Nat → Int32}
set_option maxRecDepth 100000 in
set_option maxHeartbeats 2000000 in
theorem c_J9_max_7cf53 (A : pm_H) (x0 : Int32) (x1 : Int32)  : pm_Mt l g 51 0 0 0 [.int x0, .int x1] A (md_Qp A (fun r => (x1.toInt ≤ x0.toInt ∧ r.toInt = x0.toInt) ∨ (x0.toInt < x1.toInt ∧ r.toInt = x1.toInt))) := by
  refine mt_J9_max_7cf53 rfl (fun J hC => ?_)
  have rg_x0 := pm_rng x0
  have rg_x1 := pm_rng x1
  show J 0 [some (.int x0), some (.int x1)] [] A 0 0
  refine hC.1 0 0 _ _ rfl _ _ _ _ _ ?_
  refine pq_iload_n0 (pq_iload_n1 (pq_icmp_lt ?_))
  refine And.intro (fun c1 => ?_) (fun c1 => ?_)
  · skip
    refine hC.1 1 9 _ _ rfl _ _ _ _ _ ?_
    refine pq_iload_n1 (pq_nil ?_)
    refine hC.1 2 10 _ _ rfl _ _ _ _ _ ?_
    refine pq_iret ?_
    exact ⟨rfl, fun e9 => absurd e9 (by decide), rfl, x1, rfl, rfl, by first | omega | (dsimp only; omega) | trivial⟩
  · skip
    refine pq_iload_n0 (pq_goto ?_)
    refine hC.1 2 10 _ _ rfl _ _ _ _ _ ?_
    refine pq_iret ?_
    exact ⟨rfl, fun e9 => absurd e9 (by decide), rfl, x0, rfl, rfl, by first | omega | (dsimp only; omega) | trivial⟩

set_option maxRecDepth 100000 in
set_option maxHeartbeats 2000000 in
theorem c_J9_min_7cf53 (A : pm_H) (x0 : Int32) (x1 : Int32)  : pm_Mt l g 87 0 0 0 [.int x0, .int x1] A (md_Qp A (fun r => (x1.toInt ≤ x0.toInt ∧ r.toInt = x1.toInt) ∨ (x0.toInt ≤ x1.toInt ∧ r.toInt = x0.toInt))) := by
  refine mt_J9_min_7cf53 rfl (fun J hC => ?_)
  have rg_x0 := pm_rng x0
  have rg_x1 := pm_rng x1
  show J 0 [some (.int x0), some (.int x1)] [] A 0 0
  refine hC.1 0 0 _ _ rfl _ _ _ _ _ ?_
  refine pq_iload_n0 (pq_iload_n1 (pq_icmp_gt ?_))
  refine And.intro (fun c1 => ?_) (fun c1 => ?_)
  · skip
    refine hC.1 1 9 _ _ rfl _ _ _ _ _ ?_
    refine pq_iload_n1 (pq_nil ?_)
    refine hC.1 2 10 _ _ rfl _ _ _ _ _ ?_
    refine pq_iret ?_
    exact ⟨rfl, fun e9 => absurd e9 (by decide), rfl, x1, rfl, rfl, by first | omega | (dsimp only; omega) | trivial⟩
  · skip
    refine pq_iload_n0 (pq_goto ?_)
    refine hC.1 2 10 _ _ rfl _ _ _ _ _ ?_
    refine pq_iret ?_
    exact ⟨rfl, fun e9 => absurd e9 (by decide), rfl, x0, rfl, rfl, by first | omega | (dsimp only; omega) | trivial⟩

set_option maxRecDepth 100000 in
set_option maxHeartbeats 2000000 in
theorem c_J9_abs_0f7a4 (A : pm_H) (x0 : Int32)  : pm_Mt l g 70 0 0 0 [.int x0] A (md_Qp A (fun r => -2147483647 ≤ x0.toInt → 0 ≤ r.toInt ∧ (r.toInt = x0.toInt ∨ r.toInt = - x0.toInt))) := by
  refine mt_J9_abs_0f7a4 rfl (fun J hC => ?_)
  have rg_x0 := pm_rng x0
  show J 0 [some (.int x0)] [] A 0 0
  refine hC.1 0 0 _ _ rfl _ _ _ _ _ ?_
  refine pq_iload_n0 (pq_icond_ge ?_)
  refine And.intro (fun c1 => ?_) (fun c1 => ?_)
  · skip
    refine hC.1 1 9 _ _ rfl _ _ _ _ _ ?_
    refine pq_iload_n0 (pq_nil ?_)
    refine hC.1 2 10 _ _ rfl _ _ _ _ _ ?_
    refine pq_iret ?_
    exact ⟨rfl, fun e9 => absurd e9 (by decide), rfl, x0, rfl, rfl, by intro h9; first | omega | exact ⟨by rw [em_5, pm_neg _ (by omega)]; omega, Or.inr (by rw [em_5, pm_neg _ (by omega)])⟩⟩
  · skip
    refine pq_iload_n0 (pq_ineg ?_)
    intro m2 em_5
    refine pq_goto ?_
    refine hC.1 2 10 _ _ rfl _ _ _ _ _ ?_
    refine pq_iret ?_
    exact ⟨rfl, fun e9 => absurd e9 (by decide), rfl, m2, rfl, rfl, by intro h9; first | omega | exact ⟨by rw [em_5, pm_neg _ (by omega)]; omega, Or.inr (by rw [em_5, pm_neg _ (by omega)])⟩⟩

set_option maxRecDepth 100000 in
set_option maxHeartbeats 2000000 in
theorem c_J9_floorMod_7cf53 (A : pm_H) (x0 : Int32) (x1 : Int32) (p0 : 0 ≤ x0.toInt) (p1 : 0 < x1.toInt) : pm_Mt l g 17 0 0 0 [.int x0, .int x1] A (md_Qp A (fun r => 0 ≤ r.toInt ∧ r.toInt < x1.toInt ∧ r.toInt = x0.toInt % x1.toInt)) := by
  refine mt_J9_floorMod_7cf53 rfl (fun J hC => ?_)
  have rg_x0 := pm_rng x0
  have rg_x1 := pm_rng x1
  have xx9 := pm_xor0 x0 x1 p0 (by omega)
  show J 0 [some (.int x0), some (.int x1), none] [] A 0 0
  refine hC.1 0 0 _ _ rfl _ _ _ _ _ ?_
  refine pq_iload_n0 (pq_iload_n1 (pq_irem ?_))
  refine And.intro (fun e9 => by have e8 := congrArg Int32.toInt e9; have e7 : (0 : Int32).toInt = 0 := rfl; omega) ?_
  intro m1 em_2
  try have e1 := pm_rem x0 x1 (by omega) (by omega)
  try rw [← em_2] at e1
  refine pq_istore_n [some (.int x0), some (.int x1), some (.int m1)] rfl (pq_iload_n0 (pq_iload_n1 (pq_ixor (pq_icond_ge ?_))))
  refine And.intro (fun c2 => ?_) (fun c2 => ?_)
  · skip
    refine hC.1 1 18 _ _ rfl _ _ _ _ _ ?_
    refine pq_iload_n2 (pq_iret ?_)
    exact ⟨rfl, fun e9 => absurd e9 (by decide), rfl, m1, rfl, rfl, by first | exact absurd xx9 (by omega) | omega | (exact ⟨by omega, by omega, by assumption⟩)⟩
  · skip
    refine pq_iload_n2 (pq_icond_eq ?_)
    refine And.intro (fun c3 => ?_) (fun c3 => ?_)
    · skip
      have dc3 : (m1).toInt = (0 : Int32).toInt := congrArg Int32.toInt c3
      have k0 : (0 : Int32).toInt = 0 := rfl
      refine hC.1 1 18 _ _ rfl _ _ _ _ _ ?_
      refine pq_iload_n2 (pq_iret ?_)
      exact ⟨rfl, fun e9 => absurd e9 (by decide), rfl, m1, rfl, rfl, by first | exact absurd xx9 (by omega) | omega | (exact ⟨by omega, by omega, by assumption⟩)⟩
    · skip
      have dc3 := pm_neI c3
      have k0 : (0 : Int32).toInt = 0 := rfl
      refine pq_iload_n2 (pq_iload_n1 (pq_iadd ?_))
      intro m4 em_16
      try have e4 : m4.toInt = (m1).toInt + (x1).toInt := by rw [em_16]; exact pm_add _ _ (by omega) (by omega)
      refine pq_iret ?_
      exact ⟨rfl, fun e9 => absurd e9 (by decide), rfl, m4, rfl, rfl, by first | exact absurd xx9 (by omega) | omega | (exact ⟨by omega, by omega, by assumption⟩)⟩

set_option maxRecDepth 100000 in
set_option maxHeartbeats 2000000 in
theorem c_J6_bitCount_0f7a4 (A : pm_H) (x0 : Int32)  : pm_Mt l g 75 0 0 0 [.int x0] A (md_Qp A (fun r => True)) := by
  refine mt_J6_bitCount_0f7a4 rfl (fun J hC => ?_)
  have rg_x0 := pm_rng x0
  show J 0 [some (.int x0)] [] A 0 0
  refine hC.1 0 0 _ _ rfl _ _ _ _ _ ?_
  refine pq_iload_n0 (pq_iload_n0 ?_)
  have k1 : (1 : Int32).toInt = 1 := rfl
  refine pq_iconst (pq_iushr ?_)
  have k1431655765 : (1431655765 : Int32).toInt = 1431655765 := rfl
  refine pq_ldc_w (pq_iand (pq_isub ?_))
  intro m1 em_8
  try have e1 : m1.toInt = (x0).toInt - ((((x0).toUInt32 >>> (((1 : Int32)).toUInt32 &&& Int32.toUInt32 31)).toInt32 &&& (1431655765 : Int32))).toInt := by rw [em_8]; exact pm_sub _ _ (by omega) (by omega)
  refine pq_istore_n [some (.int m1)] rfl (pq_iload_n0 ?_)
  have k858993459 : (858993459 : Int32).toInt = 858993459 := rfl
  refine pq_ldc_w (pq_iand (pq_iload_n0 ?_))
  have k2 : (2 : Int32).toInt = 2 := rfl
  refine pq_iconst (pq_iushr (pq_ldc_w (pq_iand (pq_iadd ?_))))
  intro m2 em_22
  try have e2 : m2.toInt = ((m1 &&& (858993459 : Int32))).toInt + ((((m1).toUInt32 >>> (((2 : Int32)).toUInt32 &&& Int32.toUInt32 31)).toInt32 &&& (858993459 : Int32))).toInt := by rw [em_22]; exact pm_add _ _ (by omega) (by omega)
  refine pq_istore_n [some (.int m2)] rfl (pq_iload_n0 (pq_iload_n0 ?_))
  have k4 : (4 : Int32).toInt = 4 := rfl
  refine pq_iconst (pq_iushr (pq_iadd ?_))
  intro m3 em_28
  try have e3 : m3.toInt = (m2).toInt + (((m2).toUInt32 >>> (((4 : Int32)).toUInt32 &&& Int32.toUInt32 31)).toInt32).toInt := by rw [em_28]; exact pm_add _ _ (by omega) (by omega)
  have k252645135 : (252645135 : Int32).toInt = 252645135 := rfl
  refine pq_ldc_w (pq_iand (pq_istore_n [some (.int (m3 &&& (252645135 : Int32)))] rfl (pq_iload_n0 (pq_iload_n0 ?_))))
  have k8 : (8 : Int32).toInt = 8 := rfl
  refine pq_bipush (pq_iushr (pq_iadd ?_))
  intro m4 em_39
  try have e4 : m4.toInt = ((m3 &&& (252645135 : Int32))).toInt + ((((m3 &&& (252645135 : Int32))).toUInt32 >>> (((8 : Int32)).toUInt32 &&& Int32.toUInt32 31)).toInt32).toInt := by rw [em_39]; exact pm_add _ _ (by omega) (by omega)
  refine pq_istore_n [some (.int m4)] rfl (pq_iload_n0 (pq_iload_n0 ?_))
  have k16 : (16 : Int32).toInt = 16 := rfl
  refine pq_bipush (pq_iushr (pq_iadd ?_))
  intro m5 em_46
  try have e5 : m5.toInt = (m4).toInt + (((m4).toUInt32 >>> (((16 : Int32)).toUInt32 &&& Int32.toUInt32 31)).toInt32).toInt := by rw [em_46]; exact pm_add _ _ (by omega) (by omega)
  refine pq_istore_n [some (.int m5)] rfl (pq_iload_n0 ?_)
  have k63 : (63 : Int32).toInt = 63 := rfl
  refine pq_bipush (pq_iand (pq_iret ?_))
  exact ⟨rfl, fun e9 => absurd e9 (by decide), rfl, (m5 &&& (63 : Int32)), rfl, rfl, by exact True.intro⟩

set_option maxRecDepth 100000 in
set_option maxHeartbeats 2000000 in
theorem c_X10_isColour (A : pm_H) (x0 : Int32)  : pm_Mt l g 15 0 0 0 [.int x0] A (md_Qp A (fun r => (r = 1 ∧ (0 ≤ x0.toInt ∧ x0.toInt < 24)) ∨ (r = 0 ∧ (¬ (0 ≤ x0.toInt ∧ x0.toInt < 24))))) := by
  refine mt_X10_isColour rfl (fun J hC => ?_)
  have rg_x0 := pm_rng x0
  show J 0 [some (.int x0)] [] A 0 0
  refine hC.1 0 0 _ _ rfl _ _ _ _ _ ?_
  refine pq_iload_n0 (pq_icond_lt ?_)
  refine And.intro (fun c1 => ?_) (fun c1 => ?_)
  · skip
    refine hC.1 1 14 _ _ rfl _ _ _ _ _ ?_
    have k0 : (0 : Int32).toInt = 0 := rfl
    refine pq_iconst (pq_nil ?_)
    refine hC.1 2 15 _ _ rfl _ _ _ _ _ ?_
    refine pq_iret ?_
    exact ⟨rfl, fun _ => (by decide), rfl, (0 : Int32), rfl, rfl, Or.inr ⟨rfl, by first | omega | (dsimp only; omega) | trivial⟩⟩
  · skip
    refine pq_iload_n0 ?_
    have k24 : (24 : Int32).toInt = 24 := rfl
    refine pq_bipush (pq_icmp_ge ?_)
    refine And.intro (fun c2 => ?_) (fun c2 => ?_)
    · skip
      refine hC.1 1 14 _ _ rfl _ _ _ _ _ ?_
      have k0 : (0 : Int32).toInt = 0 := rfl
      refine pq_iconst (pq_nil ?_)
      refine hC.1 2 15 _ _ rfl _ _ _ _ _ ?_
      refine pq_iret ?_
      exact ⟨rfl, fun _ => (by decide), rfl, (0 : Int32), rfl, rfl, Or.inr ⟨rfl, by first | omega | (dsimp only; omega) | trivial⟩⟩
    · skip
      have k1 : (1 : Int32).toInt = 1 := rfl
      refine pq_iconst (pq_goto ?_)
      refine hC.1 2 15 _ _ rfl _ _ _ _ _ ?_
      refine pq_iret ?_
      exact ⟨rfl, fun _ => (by decide), rfl, (1 : Int32), rfl, rfl, Or.inl ⟨rfl, by first | omega | (dsimp only; omega) | trivial⟩⟩

set_option maxRecDepth 100000 in
set_option maxHeartbeats 2000000 in
theorem c_X10_areUnlikeColours (A : pm_H) (x0 : Int32) (x1 : Int32)  : pm_Mt l g 38 1 0 0 [.int x0, .int x1] A (md_Qp A (fun r => (r = 1 ∧ ((0 ≤ x0.toInt ∧ x0.toInt < 24) ∧ 0 ≤ x1.toInt ∧ x1.toInt < 24)) ∨ (r = 0 ∧ (True)))) := by
  refine mt_X10_areUnlikeColours rfl (fun J hC => ?_)
  have rg_x0 := pm_rng x0
  have rg_x1 := pm_rng x1
  show J 0 [some (.int x0), some (.int x1)] [] A 0 0
  refine hC.1 0 0 _ _ rfl _ _ _ _ _ ?_
  refine pq_iload_n0 (pq_is1 ?_)
  refine Exists.intro _ (Exists.intro _ (Exists.intro _ (Exists.intro _ (And.intro (c_X10_isColour A x0 ) (And.intro rfl (fun r9 A1 h9 => ?_))))))
  rcases h9 with ⟨y2, rfl, rfl, ⟨rfl, by2⟩ | ⟨rfl, by2⟩⟩
  · skip
    have k1 : (1 : Int32).toInt = 1 := rfl
    refine pq_id1 (pq_icond_eq ?_)
    refine And.intro (fun c9 => absurd c9 (by decide)) (fun _ => ?_)
    refine pq_iload_n1 (pq_is1 ?_)
    refine Exists.intro _ (Exists.intro _ (Exists.intro _ (Exists.intro _ (And.intro (c_X10_isColour A1 x1 ) (And.intro rfl (fun r9 A4 h9 => ?_))))))
    rcases h9 with ⟨y5, rfl, rfl, ⟨rfl, by5⟩ | ⟨rfl, by5⟩⟩
    · skip
      refine pq_id1 (pq_icond_eq ?_)
      refine And.intro (fun c9 => absurd c9 (by decide)) (fun _ => ?_)
      refine pq_iload_n0 (pq_iload_n1 (pq_icmp_eq ?_))
      refine And.intro (fun c7 => ?_) (fun c7 => ?_)
      · skip
        have dc7 : (x0).toInt = (x1 : Int32).toInt := congrArg Int32.toInt c7
        refine hC.1 1 23 _ _ rfl _ _ _ _ _ ?_
        have k0 : (0 : Int32).toInt = 0 := rfl
        refine pq_iconst (pq_nil ?_)
        refine hC.1 2 24 _ _ rfl _ _ _ _ _ ?_
        refine pq_iret ?_
        exact ⟨rfl, fun _ => (by decide), rfl, (0 : Int32), rfl, rfl, Or.inr ⟨rfl, by first | omega | (dsimp only; omega) | trivial⟩⟩
      · skip
        have dc7 := pm_neI c7
        refine pq_iconst (pq_goto ?_)
        refine hC.1 2 24 _ _ rfl _ _ _ _ _ ?_
        refine pq_iret ?_
        exact ⟨rfl, fun _ => (by decide), rfl, (1 : Int32), rfl, rfl, Or.inl ⟨rfl, by first | omega | (dsimp only; omega) | trivial⟩⟩
    · skip
      have k0 : (0 : Int32).toInt = 0 := rfl
      refine pq_id1 (pq_icond_eq ?_)
      refine And.intro (fun _ => ?_) (fun c9 => absurd c9 (by decide))
      refine hC.1 1 23 _ _ rfl _ _ _ _ _ ?_
      refine pq_iconst (pq_nil ?_)
      refine hC.1 2 24 _ _ rfl _ _ _ _ _ ?_
      refine pq_iret ?_
      exact ⟨rfl, fun _ => (by decide), rfl, (0 : Int32), rfl, rfl, Or.inr ⟨rfl, by first | omega | (dsimp only; omega) | trivial⟩⟩
  · skip
    have k0 : (0 : Int32).toInt = 0 := rfl
    refine pq_id1 (pq_icond_eq ?_)
    refine And.intro (fun _ => ?_) (fun c9 => absurd c9 (by decide))
    refine hC.1 1 23 _ _ rfl _ _ _ _ _ ?_
    refine pq_iconst (pq_nil ?_)
    refine hC.1 2 24 _ _ rfl _ _ _ _ _ ?_
    refine pq_iret ?_
    exact ⟨rfl, fun _ => (by decide), rfl, (0 : Int32), rfl, rfl, Or.inr ⟨rfl, by first | omega | (dsimp only; omega) | trivial⟩⟩

set_option maxRecDepth 100000 in
set_option maxHeartbeats 2000000 in
theorem c_X8_canBe (A : pm_H) (x0 : Int32) (x1 : Int32)  : pm_Mt l g 121 0 0 0 [.int x0, .int x1] A (md_Qp A (fun r => (r = 1 ∧ (1 ≤ x0.toInt ∧ x0.toInt ≤ 24)) ∨ (r = 0 ∧ (True)))) := by
  refine mt_X8_canBe rfl (fun J hC => ?_)
  have rg_x0 := pm_rng x0
  have rg_x1 := pm_rng x1
  show J 0 [some (.int x0), some (.int x1)] [] A 0 0
  refine hC.1 0 0 _ _ rfl _ _ _ _ _ ?_
  refine pq_iload_n0 ?_
  have k1 : (1 : Int32).toInt = 1 := rfl
  refine pq_iconst (pq_icmp_lt ?_)
  refine And.intro (fun c1 => ?_) (fun c1 => ?_)
  · skip
    refine hC.1 2 24 _ _ rfl _ _ _ _ _ ?_
    have k0 : (0 : Int32).toInt = 0 := rfl
    refine pq_iconst (pq_nil ?_)
    refine hC.1 3 25 _ _ rfl _ _ _ _ _ ?_
    refine pq_iret ?_
    exact ⟨rfl, fun _ => (by decide), rfl, (0 : Int32), rfl, rfl, Or.inr ⟨rfl, by first | omega | (dsimp only; omega) | trivial⟩⟩
  · skip
    refine pq_iload_n0 ?_
    have k24 : (24 : Int32).toInt = 24 := rfl
    refine pq_bipush (pq_icmp_gt ?_)
    refine And.intro (fun c2 => ?_) (fun c2 => ?_)
    · skip
      refine hC.1 2 24 _ _ rfl _ _ _ _ _ ?_
      have k0 : (0 : Int32).toInt = 0 := rfl
      refine pq_iconst (pq_nil ?_)
      refine hC.1 3 25 _ _ rfl _ _ _ _ _ ?_
      refine pq_iret ?_
      exact ⟨rfl, fun _ => (by decide), rfl, (0 : Int32), rfl, rfl, Or.inr ⟨rfl, by first | omega | (dsimp only; omega) | trivial⟩⟩
    · skip
      refine pq_iload_n1 (pq_icond_eq ?_)
      refine And.intro (fun c3 => ?_) (fun c3 => ?_)
      · skip
        have dc3 : (x1).toInt = (0 : Int32).toInt := congrArg Int32.toInt c3
        have k0 : (0 : Int32).toInt = 0 := rfl
        refine hC.1 1 20 _ _ rfl _ _ _ _ _ ?_
        refine pq_iconst (pq_goto ?_)
        refine hC.1 3 25 _ _ rfl _ _ _ _ _ ?_
        refine pq_iret ?_
        exact ⟨rfl, fun _ => (by decide), rfl, (1 : Int32), rfl, rfl, Or.inl ⟨rfl, by first | omega | (dsimp only; omega) | trivial⟩⟩
      · skip
        have dc3 := pm_neI c3
        have k0 : (0 : Int32).toInt = 0 := rfl
        refine pq_iload_n1 (pq_iconst (pq_icmp_ne ?_))
        refine And.intro (fun c4 => ?_) (fun c4 => ?_)
        · skip
          have dc4 := pm_neI c4
          refine hC.1 2 24 _ _ rfl _ _ _ _ _ ?_
          refine pq_iconst (pq_nil ?_)
          refine hC.1 3 25 _ _ rfl _ _ _ _ _ ?_
          refine pq_iret ?_
          exact ⟨rfl, fun _ => (by decide), rfl, (0 : Int32), rfl, rfl, Or.inr ⟨rfl, by first | omega | (dsimp only; omega) | trivial⟩⟩
        · skip
          have dc4 : (x1).toInt = ((1 : Int32) : Int32).toInt := congrArg Int32.toInt c4
          refine pq_nil ?_
          refine hC.1 1 20 _ _ rfl _ _ _ _ _ ?_
          refine pq_iconst (pq_goto ?_)
          refine hC.1 3 25 _ _ rfl _ _ _ _ _ ?_
          refine pq_iret ?_
          exact ⟨rfl, fun _ => (by decide), rfl, (1 : Int32), rfl, rfl, Or.inl ⟨rfl, by first | omega | (dsimp only; omega) | trivial⟩⟩

set_option maxRecDepth 100000 in
set_option maxHeartbeats 2000000 in
theorem c_X7_has (hI : cw_I K nn dn q w e) (hs : cw_S v f) {o0 : Nat} (ho0 : cw_ro K o0) (x1 : Int32)  : pm_Mt l g 19 0 0 0 [.ref (q o0), .int x1] (cw A0 g K nn dn q w e v f) (md_Qp (cw A0 g K nn dn q w e v f) (fun r => (r = 1 ∧ (0 ≤ x1.toInt ∧ x1.toInt < (w o0).toInt)) ∨ (r = 0 ∧ (¬ (0 ≤ x1.toInt ∧ x1.toInt < (w o0).toInt))))) := by
  refine mt_X7_has rfl (fun J hC => ?_)
  have ro_nn : cw_ro K nn := hI.2.1.2.1
  have ro_dn : cw_ro K dn := hI.2.1.2.2.1
  have hu1 := hI.2.1
  unfold cw_W at hu1
  have rg_x1 := pm_rng x1
  show J 0 [some (.ref (q o0)), some (.int x1)] [] (cw A0 g K nn dn q w e v f) 0 0
  refine hC.1 0 0 _ _ rfl _ _ _ _ _ ?_
  refine pq_iload_n1 (pq_icond_lt ?_)
  refine And.intro (fun c2 => ?_) (fun c2 => ?_)
  · skip
    refine hC.1 1 16 _ _ rfl _ _ _ _ _ ?_
    have k0 : (0 : Int32).toInt = 0 := rfl
    refine pq_iconst (pq_nil ?_)
    refine hC.1 2 17 _ _ rfl _ _ _ _ _ ?_
    refine pq_iret ?_
    exact ⟨rfl, fun _ => (by decide), rfl, (0 : Int32), rfl, rfl, Or.inr ⟨rfl, by first | omega | (dsimp only; omega) | trivial⟩⟩
  · skip
    refine pq_iload_n1 (pq_aload_n0 (qgr_3 hI.1 ho0 ?_))
    have z3 := cw_sz hI ho0
    refine pq_icmp_ge ?_
    refine And.intro (fun c4 => ?_) (fun c4 => ?_)
    · skip
      refine hC.1 1 16 _ _ rfl _ _ _ _ _ ?_
      have k0 : (0 : Int32).toInt = 0 := rfl
      refine pq_iconst (pq_nil ?_)
      refine hC.1 2 17 _ _ rfl _ _ _ _ _ ?_
      refine pq_iret ?_
      exact ⟨rfl, fun _ => (by decide), rfl, (0 : Int32), rfl, rfl, Or.inr ⟨rfl, by first | omega | (dsimp only; omega) | trivial⟩⟩
    · skip
      have k1 : (1 : Int32).toInt = 1 := rfl
      refine pq_iconst (pq_goto ?_)
      refine hC.1 2 17 _ _ rfl _ _ _ _ _ ?_
      refine pq_iret ?_
      exact ⟨rfl, fun _ => (by decide), rfl, (1 : Int32), rfl, rfl, Or.inl ⟨rfl, by first | omega | (dsimp only; omega) | trivial⟩⟩

set_option maxRecDepth 100000 in
set_option maxHeartbeats 2000000 in
theorem c_X7_isGap (hI : cw_I K nn dn q w e) (hs : cw_S v f) {o0 : Nat} (ho0 : cw_ro K o0) (x1 : Int32)  : pm_Mt l g 26 0 0 0 [.ref (q o0), .int x1] (cw A0 g K nn dn q w e v f) (md_Qp (cw A0 g K nn dn q w e v f) (fun r => (r = 1 ∧ (0 ≤ x1.toInt ∧ x1.toInt ≤ (w o0).toInt)) ∨ (r = 0 ∧ (¬ (0 ≤ x1.toInt ∧ x1.toInt ≤ (w o0).toInt))))) := by
  refine mt_X7_isGap rfl (fun J hC => ?_)
  have ro_nn : cw_ro K nn := hI.2.1.2.1
  have ro_dn : cw_ro K dn := hI.2.1.2.2.1
  have hu1 := hI.2.1
  unfold cw_W at hu1
  have rg_x1 := pm_rng x1
  show J 0 [some (.ref (q o0)), some (.int x1)] [] (cw A0 g K nn dn q w e v f) 0 0
  refine hC.1 0 0 _ _ rfl _ _ _ _ _ ?_
  refine pq_iload_n1 (pq_icond_lt ?_)
  refine And.intro (fun c2 => ?_) (fun c2 => ?_)
  · skip
    refine hC.1 1 16 _ _ rfl _ _ _ _ _ ?_
    have k0 : (0 : Int32).toInt = 0 := rfl
    refine pq_iconst (pq_nil ?_)
    refine hC.1 2 17 _ _ rfl _ _ _ _ _ ?_
    refine pq_iret ?_
    exact ⟨rfl, fun _ => (by decide), rfl, (0 : Int32), rfl, rfl, Or.inr ⟨rfl, by first | omega | (dsimp only; omega) | trivial⟩⟩
  · skip
    refine pq_iload_n1 (pq_aload_n0 (qgr_3 hI.1 ho0 ?_))
    have z3 := cw_sz hI ho0
    refine pq_icmp_gt ?_
    refine And.intro (fun c4 => ?_) (fun c4 => ?_)
    · skip
      refine hC.1 1 16 _ _ rfl _ _ _ _ _ ?_
      have k0 : (0 : Int32).toInt = 0 := rfl
      refine pq_iconst (pq_nil ?_)
      refine hC.1 2 17 _ _ rfl _ _ _ _ _ ?_
      refine pq_iret ?_
      exact ⟨rfl, fun _ => (by decide), rfl, (0 : Int32), rfl, rfl, Or.inr ⟨rfl, by first | omega | (dsimp only; omega) | trivial⟩⟩
    · skip
      have k1 : (1 : Int32).toInt = 1 := rfl
      refine pq_iconst (pq_goto ?_)
      refine hC.1 2 17 _ _ rfl _ _ _ _ _ ?_
      refine pq_iret ?_
      exact ⟨rfl, fun _ => (by decide), rfl, (1 : Int32), rfl, rfl, Or.inl ⟨rfl, by first | omega | (dsimp only; omega) | trivial⟩⟩

set_option maxRecDepth 100000 in
set_option maxHeartbeats 2000000 in
theorem c_X7_isSpan (hI : cw_I K nn dn q w e) (hs : cw_S v f) {o0 : Nat} (ho0 : cw_ro K o0) (x1 : Int32) (x2 : Int32)  : pm_Mt l g 14 0 0 0 [.ref (q o0), .int x1, .int x2] (cw A0 g K nn dn q w e v f) (md_Qp (cw A0 g K nn dn q w e v f) (fun r => (r = 1 ∧ (0 ≤ x1.toInt ∧ x1.toInt ≤ x2.toInt ∧ x2.toInt < (w o0).toInt)) ∨ (r = 0 ∧ (¬ (0 ≤ x1.toInt ∧ x1.toInt ≤ x2.toInt ∧ x2.toInt < (w o0).toInt))))) := by
  refine mt_X7_isSpan rfl (fun J hC => ?_)
  have ro_nn : cw_ro K nn := hI.2.1.2.1
  have ro_dn : cw_ro K dn := hI.2.1.2.2.1
  have hu1 := hI.2.1
  unfold cw_W at hu1
  have rg_x1 := pm_rng x1
  have rg_x2 := pm_rng x2
  show J 0 [some (.ref (q o0)), some (.int x1), some (.int x2)] [] (cw A0 g K nn dn q w e v f) 0 0
  refine hC.1 0 0 _ _ rfl _ _ _ _ _ ?_
  refine pq_iload_n1 (pq_icond_lt ?_)
  refine And.intro (fun c2 => ?_) (fun c2 => ?_)
  · skip
    refine hC.1 1 21 _ _ rfl _ _ _ _ _ ?_
    have k0 : (0 : Int32).toInt = 0 := rfl
    refine pq_iconst (pq_nil ?_)
    refine hC.1 2 22 _ _ rfl _ _ _ _ _ ?_
    refine pq_iret ?_
    exact ⟨rfl, fun _ => (by decide), rfl, (0 : Int32), rfl, rfl, Or.inr ⟨rfl, by first | omega | (dsimp only; omega) | trivial⟩⟩
  · skip
    refine pq_iload_n1 (pq_iload_n2 (pq_icmp_gt ?_))
    refine And.intro (fun c3 => ?_) (fun c3 => ?_)
    · skip
      refine hC.1 1 21 _ _ rfl _ _ _ _ _ ?_
      have k0 : (0 : Int32).toInt = 0 := rfl
      refine pq_iconst (pq_nil ?_)
      refine hC.1 2 22 _ _ rfl _ _ _ _ _ ?_
      refine pq_iret ?_
      exact ⟨rfl, fun _ => (by decide), rfl, (0 : Int32), rfl, rfl, Or.inr ⟨rfl, by first | omega | (dsimp only; omega) | trivial⟩⟩
    · skip
      refine pq_iload_n2 (pq_aload_n0 (qgr_3 hI.1 ho0 ?_))
      have z4 := cw_sz hI ho0
      refine pq_icmp_ge ?_
      refine And.intro (fun c5 => ?_) (fun c5 => ?_)
      · skip
        refine hC.1 1 21 _ _ rfl _ _ _ _ _ ?_
        have k0 : (0 : Int32).toInt = 0 := rfl
        refine pq_iconst (pq_nil ?_)
        refine hC.1 2 22 _ _ rfl _ _ _ _ _ ?_
        refine pq_iret ?_
        exact ⟨rfl, fun _ => (by decide), rfl, (0 : Int32), rfl, rfl, Or.inr ⟨rfl, by first | omega | (dsimp only; omega) | trivial⟩⟩
      · skip
        have k1 : (1 : Int32).toInt = 1 := rfl
        refine pq_iconst (pq_goto ?_)
        refine hC.1 2 22 _ _ rfl _ _ _ _ _ ?_
        refine pq_iret ?_
        exact ⟨rfl, fun _ => (by decide), rfl, (1 : Int32), rfl, rfl, Or.inl ⟨rfl, by first | omega | (dsimp only; omega) | trivial⟩⟩

set_option maxRecDepth 100000 in
set_option maxHeartbeats 2000000 in
theorem c_X7_nameAt (hI : cw_I K nn dn q w e) (hs : cw_S v f) {o0 : Nat} (ho0 : cw_ro K o0) (x1 : Int32)  : pm_Mt l g 21 1 0 0 [.ref (q o0), .int x1] (cw A0 g K nn dn q w e v f) (md_Qp (cw A0 g K nn dn q w e v f) (fun r => True)) := by
  refine mt_X7_nameAt rfl (fun J hC => ?_)
  have ro_nn : cw_ro K nn := hI.2.1.2.1
  have ro_dn : cw_ro K dn := hI.2.1.2.2.1
  have hu1 := hI.2.1
  unfold cw_W at hu1
  have rg_x1 := pm_rng x1
  have zz0 := cw_sz hI ho0
  show J 0 [some (.ref (q o0)), some (.int x1)] [] (cw A0 g K nn dn q w e v f) 0 0
  refine hC.1 0 0 _ _ rfl _ _ _ _ _ ?_
  refine pq_aload_n0 (pq_iload_n1 (pq_iv1_7 ?_))
  refine And.intro (Exists.intro _ (cw_ro_o hI.1 ho0)) (Exists.intro _ (Exists.intro _ (Exists.intro _ (Exists.intro _ (And.intro (c_X7_has hI hs ho0 x1 ) (And.intro rfl (fun r9 A9 h9 => ?_)))))))
  rcases h9 with ⟨y2, rfl, rfl, ⟨rfl, by2⟩ | ⟨rfl, by2⟩⟩
  · skip
    have k1 : (1 : Int32).toInt = 1 := rfl
    refine pq_id1 (pq_icond_eq ?_)
    refine And.intro (fun c9 => absurd c9 (by decide)) (fun _ => ?_)
    refine pq_aload_n0 (qgr_1 hI.1 ho0 (pq_iload_n1 (qlc_r2 hI.1 ho0 (by omega) (pq_goto ?_))))
    refine hC.1 2 18 _ _ rfl _ _ _ _ _ ?_
    refine pq_iret ?_
    exact ⟨rfl, fun e9 => absurd e9 (by decide), rfl, (e (o0 + 2) (x1).toInt.toNat), rfl, rfl, by exact True.intro⟩
  · skip
    have k0 : (0 : Int32).toInt = 0 := rfl
    refine pq_id1 (pq_icond_eq ?_)
    refine And.intro (fun _ => ?_) (fun c9 => absurd c9 (by decide))
    refine hC.1 1 17 _ _ rfl _ _ _ _ _ ?_
    have km1 : (-1 : Int32).toInt = -1 := rfl
    refine pq_iconst (pq_nil ?_)
    refine hC.1 2 18 _ _ rfl _ _ _ _ _ ?_
    refine pq_iret ?_
    exact ⟨rfl, fun e9 => absurd e9 (by decide), rfl, (-1 : Int32), rfl, rfl, by exact True.intro⟩

set_option maxRecDepth 100000 in
set_option maxHeartbeats 2000000 in
theorem c_X7_bondAt (hI : cw_I K nn dn q w e) (hs : cw_S v f) {o0 : Nat} (ho0 : cw_ro K o0) (x1 : Int32)  : pm_Mt l g 20 2 0 0 [.ref (q o0), .int x1] (cw A0 g K nn dn q w e v f) (md_Qp (cw A0 g K nn dn q w e v f) (fun r => True)) := by
  refine mt_X7_bondAt rfl (fun J hC => ?_)
  have ro_nn : cw_ro K nn := hI.2.1.2.1
  have ro_dn : cw_ro K dn := hI.2.1.2.2.1
  have hu1 := hI.2.1
  unfold cw_W at hu1
  have rg_x1 := pm_rng x1
  have zz0 := cw_sz hI ho0
  show J 0 [some (.ref (q o0)), some (.int x1)] [] (cw A0 g K nn dn q w e v f) 0 0
  refine hC.1 0 0 _ _ rfl _ _ _ _ _ ?_
  refine pq_aload_n0 (pq_iload_n1 (pq_iv1_7 ?_))
  refine And.intro (Exists.intro _ (cw_ro_o hI.1 ho0)) (Exists.intro _ (Exists.intro _ (Exists.intro _ (Exists.intro _ (And.intro (c_X7_has hI hs ho0 x1 ) (And.intro rfl (fun r9 A9 h9 => ?_)))))))
  rcases h9 with ⟨y2, rfl, rfl, ⟨rfl, by2⟩ | ⟨rfl, by2⟩⟩
  · skip
    have k1 : (1 : Int32).toInt = 1 := rfl
    refine pq_id1 (pq_icond_eq ?_)
    refine And.intro (fun c9 => absurd c9 (by decide)) (fun _ => ?_)
    refine pq_aload_n0 (pq_aload_n0 (qgr_2 hI.1 ho0 (pq_iload_n1 (qlc_r3 hI.1 ho0 (by omega) ?_))))
    have w4 := cw_ahd hI ho0 (x1).toInt.toNat
    refine pq_iv1_7 ?_
    refine And.intro (Exists.intro _ (cw_ro_o hI.1 ho0)) (Exists.intro _ (Exists.intro _ (Exists.intro _ (Exists.intro _ (And.intro (c_X7_nameAt hI hs ho0 (e (o0 + 3) (x1).toInt.toNat) ) (And.intro rfl (fun r9 A9 h9 => ?_)))))))
    obtain ⟨y5, rfl, rfl, by5⟩ := h9
    refine pq_id1 (pq_goto ?_)
    refine hC.1 2 22 _ _ rfl _ _ _ _ _ ?_
    refine pq_iret ?_
    exact ⟨rfl, fun e9 => absurd e9 (by decide), rfl, y5, rfl, rfl, by exact True.intro⟩
  · skip
    have k0 : (0 : Int32).toInt = 0 := rfl
    refine pq_id1 (pq_icond_eq ?_)
    refine And.intro (fun _ => ?_) (fun c9 => absurd c9 (by decide))
    refine hC.1 1 21 _ _ rfl _ _ _ _ _ ?_
    have km1 : (-1 : Int32).toInt = -1 := rfl
    refine pq_iconst (pq_nil ?_)
    refine hC.1 2 22 _ _ rfl _ _ _ _ _ ?_
    refine pq_iret ?_
    exact ⟨rfl, fun e9 => absurd e9 (by decide), rfl, (-1 : Int32), rfl, rfl, by exact True.intro⟩

end
end
section
section
variable {l : Launch} {g : pm_G} {A0 : pm_H} {K nn dn : Nat} {q : Nat → Nat} {w : Nat → Int32} {e : Nat → Nat → Int32} {v : Nat → Int32} {f : Nat → Nat → Int32}
set_option maxRecDepth 100000 in
set_option maxHeartbeats 2000000 in
theorem c_X7_tell (hI : cw_I K nn dn q w e) (hs : cw_S v f) {o0 : Nat} (ho0 : cw_ro K o0) (x1 : Int32) (x2 : Int32)  : pm_Mt l g 44 3 0 0 [.ref (q o0), .int x1, .int x2] (cw A0 g K nn dn q w e v f) (md_Qp (cw A0 g K nn dn q w e v f) (fun r => True)) := by
  refine mt_X7_tell rfl (fun J hC => ?_)
  have ro_nn : cw_ro K nn := hI.2.1.2.1
  have ro_dn : cw_ro K dn := hI.2.1.2.2.1
  have hu1 := hI.2.1
  unfold cw_W at hu1
  have rg_x1 := pm_rng x1
  have rg_x2 := pm_rng x2
  have zz0 := cw_sz hI ho0
  show J 0 [some (.ref (q o0)), some (.int x1), some (.int x2)] [] (cw A0 g K nn dn q w e v f) 0 0
  refine hC.1 0 0 _ _ rfl _ _ _ _ _ ?_
  refine pq_aload_n0 (pq_iload_n1 (pq_iv1_7 ?_))
  refine And.intro (Exists.intro _ (cw_ro_o hI.1 ho0)) (Exists.intro _ (Exists.intro _ (Exists.intro _ (Exists.intro _ (And.intro (c_X7_has hI hs ho0 x1 ) (And.intro rfl (fun r9 A9 h9 => ?_)))))))
  rcases h9 with ⟨y2, rfl, rfl, ⟨rfl, by2⟩ | ⟨rfl, by2⟩⟩
  · skip
    have k1 : (1 : Int32).toInt = 1 := rfl
    refine pq_id1 (pq_icond_ne ?_)
    refine And.intro (fun _ => ?_) (fun c9 => absurd c9 (by decide))
    refine hC.1 1 10 _ _ rfl _ _ _ _ _ ?_
    refine pq_iload_n2 (pq_ts ?_)
    refine pm_swc 3 rfl (by decide) ?_ ?_
    · intro _
      refine hC.1 5 56 _ _ rfl _ _ _ _ _ ?_
      have km1 : (-1 : Int32).toInt = -1 := rfl
      refine pq_iconst (pq_iret ?_)
      exact ⟨rfl, fun e9 => absurd e9 (by decide), rfl, (-1 : Int32), rfl, rfl, by exact True.intro⟩
    · intro i9 hi9 he9
      rcases (show i9 = 0 ∨ i9 = 1 ∨ i9 = 2 by omega) with rfl | rfl | rfl
      · skip
        refine hC.1 2 36 _ _ rfl _ _ _ _ _ ?_
        refine pq_aload_n0 (qgr_0 hI.1 ho0 (pq_iload_n1 (qlc_r1 hI.1 ho0 (by omega) ?_)))
        have w6 := cw_col hI ho0 (x1).toInt.toNat
        refine pq_iret ?_
        exact ⟨rfl, fun e9 => absurd e9 (by decide), rfl, (e (o0 + 1) (x1).toInt.toNat), rfl, rfl, by exact True.intro⟩
      · skip
        refine hC.1 3 43 _ _ rfl _ _ _ _ _ ?_
        refine pq_aload_n0 (qgr_1 hI.1 ho0 (pq_iload_n1 (qlc_r2 hI.1 ho0 (by omega) (pq_iret ?_))))
        exact ⟨rfl, fun e9 => absurd e9 (by decide), rfl, (e (o0 + 2) (x1).toInt.toNat), rfl, rfl, by exact True.intro⟩
      · skip
        refine hC.1 4 50 _ _ rfl _ _ _ _ _ ?_
        refine pq_aload_n0 (pq_iload_n1 (pq_iv1_7 ?_))
        refine And.intro (Exists.intro _ (cw_ro_o hI.1 ho0)) (Exists.intro _ (Exists.intro _ (Exists.intro _ (Exists.intro _ (And.intro (c_X7_bondAt hI hs ho0 x1 ) (And.intro rfl (fun r9 A9 h9 => ?_)))))))
        obtain ⟨y7, rfl, rfl, by7⟩ := h9
        refine pq_id1 (pq_iret ?_)
        exact ⟨rfl, fun e9 => absurd e9 (by decide), rfl, y7, rfl, rfl, by exact True.intro⟩
  · skip
    have k0 : (0 : Int32).toInt = 0 := rfl
    refine pq_id1 (pq_icond_ne ?_)
    refine And.intro (fun c9 => absurd c9 (by decide)) (fun _ => ?_)
    have km1 : (-1 : Int32).toInt = -1 := rfl
    refine pq_iconst (pq_iret ?_)
    exact ⟨rfl, fun e9 => absurd e9 (by decide), rfl, (-1 : Int32), rfl, rfl, by exact True.intro⟩

set_option maxRecDepth 100000 in
set_option maxHeartbeats 2000000 in
theorem c_X7_placeOf (hI : cw_I K nn dn q w e) (hs : cw_S v f) {o0 : Nat} (ho0 : cw_ro K o0) (x1 : Int32)  : pm_Mt l g 46 0 0 0 [.ref (q o0), .int x1] (cw A0 g K nn dn q w e v f) (md_Qp (cw A0 g K nn dn q w e v f) (fun r => -1 ≤ r.toInt ∧ r.toInt < (w o0).toInt)) := by
  refine mt_X7_placeOf rfl (fun J hC => ?_)
  have ro_nn : cw_ro K nn := hI.2.1.2.1
  have ro_dn : cw_ro K dn := hI.2.1.2.2.1
  have hu1 := hI.2.1
  unfold cw_W at hu1
  have rg_x1 := pm_rng x1
  have zz0 := cw_sz hI ho0
  show J 0 [some (.ref (q o0)), some (.int x1), none] [] (cw A0 g K nn dn q w e v f) 0 0
  refine hC.1 0 0 _ _ rfl _ _ _ _ _ ?_
  have k0 : (0 : Int32).toInt = 0 := rfl
  refine pq_iconst (pq_istore_n [some (.ref (q o0)), some (.int x1), some (.int (0 : Int32))] rfl (pq_nil ?_))
  have lp3 : ∀ (n : Nat) (z2_2 : Int32), (0 ≤ z2_2.toInt ∧ z2_2.toInt ≤ (w o0).toInt) → 200 - z2_2.toInt < (n : Int) → J 2 [some (.ref (q o0)), some (.int x1), some (.int z2_2)] [] (cw A0 g K nn dn q w e v f) 0 0 := by
    intro n
    induction n with
    | zero =>
      intro z2_2 j0_2 j1_2
      omega
    | succ n ih4 =>
      intro z2_2 j0_2 j1_2
      refine hC.1 1 2 _ _ rfl _ _ _ _ _ ?_
      refine pq_iload_n2 (pq_aload_n0 (qgr_3 hI.1 ho0 ?_))
      have z5 := cw_sz hI ho0
      refine pq_icmp_ge ?_
      refine And.intro (fun c6 => ?_) (fun c6 => ?_)
      · skip
        refine hC.1 3 28 _ _ rfl _ _ _ _ _ ?_
        have km1 : (-1 : Int32).toInt = -1 := rfl
        refine pq_iconst (pq_iret ?_)
        exact ⟨rfl, fun e9 => absurd e9 (by decide), rfl, (-1 : Int32), rfl, rfl, by first | omega | (dsimp only; omega) | trivial⟩
      · skip
        refine pq_aload_n0 (qgr_1 hI.1 ho0 (pq_iload_n2 (qlc_r2 hI.1 ho0 (by omega) (pq_iload_n1 (pq_icmp_ne ?_)))))
        refine And.intro (fun c7 => ?_) (fun c7 => ?_)
        · skip
          have dc7 := pm_neI c7
          refine hC.1 2 22 _ _ rfl _ _ _ _ _ ?_
          have k1 : (1 : Int32).toInt = 1 := rfl
          refine pq_iinc (fun zm_9 => [some (.ref (q o0)), some (.int x1), some (.int zm_9)]) rfl (fun _ => rfl) ?_
          intro m8 em_22
          try have e8 : m8.toInt = (z2_2).toInt + (1) := by rw [em_22]; exact pm_addc _ _ (1) rfl (by omega) (by omega)
          refine pq_goto ?_
          exact ih4 m8 (by omega) (by omega)
        · skip
          have dc7 : ((e (o0 + 2) (z2_2).toInt.toNat)).toInt = (x1 : Int32).toInt := congrArg Int32.toInt c7
          refine pq_iload_n2 (pq_iret ?_)
          exact ⟨rfl, fun e9 => absurd e9 (by decide), rfl, z2_2, rfl, rfl, by first | omega | (dsimp only; omega) | trivial⟩
  exact lp3 (200 - (0 : Int32).toInt).toNat.succ (0 : Int32) (by omega) (by omega)

set_option maxRecDepth 100000 in
set_option maxHeartbeats 2000000 in
theorem c_X7_hasName (hI : cw_I K nn dn q w e) (hs : cw_S v f) {o0 : Nat} (ho0 : cw_ro K o0) (x1 : Int32)  : pm_Mt l g 154 1 0 0 [.ref (q o0), .int x1] (cw A0 g K nn dn q w e v f) (md_Qp (cw A0 g K nn dn q w e v f) (fun r => (r = 1 ∧ (True)) ∨ (r = 0 ∧ (True)))) := by
  refine mt_X7_hasName rfl (fun J hC => ?_)
  have ro_nn : cw_ro K nn := hI.2.1.2.1
  have ro_dn : cw_ro K dn := hI.2.1.2.2.1
  have hu1 := hI.2.1
  unfold cw_W at hu1
  have rg_x1 := pm_rng x1
  show J 0 [some (.ref (q o0)), some (.int x1)] [] (cw A0 g K nn dn q w e v f) 0 0
  refine hC.1 0 0 _ _ rfl _ _ _ _ _ ?_
  refine pq_aload_n0 (pq_iload_n1 (pq_iv1_7 ?_))
  refine And.intro (Exists.intro _ (cw_ro_o hI.1 ho0)) (Exists.intro _ (Exists.intro _ (Exists.intro _ (Exists.intro _ (And.intro (c_X7_placeOf hI hs ho0 x1 ) (And.intro rfl (fun r9 A9 h9 => ?_)))))))
  obtain ⟨y2, rfl, rfl, by2⟩ := h9
  refine pq_id1 ?_
  have km1 : (-1 : Int32).toInt = -1 := rfl
  refine pq_iconst (pq_icmp_eq ?_)
  refine And.intro (fun c4 => ?_) (fun c4 => ?_)
  · skip
    have dc4 : (y2).toInt = ((-1 : Int32) : Int32).toInt := congrArg Int32.toInt c4
    refine hC.1 1 13 _ _ rfl _ _ _ _ _ ?_
    have k0 : (0 : Int32).toInt = 0 := rfl
    refine pq_iconst (pq_nil ?_)
    refine hC.1 2 14 _ _ rfl _ _ _ _ _ ?_
    refine pq_iret ?_
    exact ⟨rfl, fun _ => (by decide), rfl, (0 : Int32), rfl, rfl, Or.inr ⟨rfl, by first | omega | (dsimp only; omega) | trivial⟩⟩
  · skip
    have dc4 := pm_neI c4
    have k1 : (1 : Int32).toInt = 1 := rfl
    refine pq_iconst (pq_goto ?_)
    refine hC.1 2 14 _ _ rfl _ _ _ _ _ ?_
    refine pq_iret ?_
    exact ⟨rfl, fun _ => (by decide), rfl, (1 : Int32), rfl, rfl, Or.inl ⟨rfl, by first | omega | (dsimp only; omega) | trivial⟩⟩

set_option maxRecDepth 100000 in
set_option maxHeartbeats 2000000 in
theorem c_X7_nextAlike (hI : cw_I K nn dn q w e) (hs : cw_S v f) {o0 : Nat} (ho0 : cw_ro K o0) (x1 : Int32)  : pm_Mt l g 43 1 0 0 [.ref (q o0), .int x1] (cw A0 g K nn dn q w e v f) (md_Qp (cw A0 g K nn dn q w e v f) (fun r => True)) := by
  refine mt_X7_nextAlike rfl (fun J hC => ?_)
  have ro_nn : cw_ro K nn := hI.2.1.2.1
  have ro_dn : cw_ro K dn := hI.2.1.2.2.1
  have hu1 := hI.2.1
  unfold cw_W at hu1
  have rg_x1 := pm_rng x1
  have zz0 := cw_sz hI ho0
  show J 0 [some (.ref (q o0)), some (.int x1), none] [] (cw A0 g K nn dn q w e v f) 0 0
  refine hC.1 0 0 _ _ rfl _ _ _ _ _ ?_
  refine pq_aload_n0 (pq_iload_n1 (pq_iv1_7 ?_))
  refine And.intro (Exists.intro _ (cw_ro_o hI.1 ho0)) (Exists.intro _ (Exists.intro _ (Exists.intro _ (Exists.intro _ (And.intro (c_X7_has hI hs ho0 x1 ) (And.intro rfl (fun r9 A9 h9 => ?_)))))))
  rcases h9 with ⟨y2, rfl, rfl, ⟨rfl, by2⟩ | ⟨rfl, by2⟩⟩
  · skip
    have k1 : (1 : Int32).toInt = 1 := rfl
    refine pq_id1 (pq_icond_ne ?_)
    refine And.intro (fun _ => ?_) (fun c9 => absurd c9 (by decide))
    refine hC.1 1 10 _ _ rfl _ _ _ _ _ ?_
    refine pq_iload_n1 (pq_iconst (pq_iadd ?_))
    intro m4 em_12
    try have e4 : m4.toInt = (x1).toInt + (1) := by rw [em_12]; exact pm_addc _ _ (1) rfl (by omega) (by omega)
    refine pq_istore_n [some (.ref (q o0)), some (.int x1), some (.int m4)] rfl (pq_nil ?_)
    have lp6 : ∀ (n : Nat) (z2_14 : Int32), (0 ≤ z2_14.toInt ∧ z2_14.toInt ≤ 160) → 200 - z2_14.toInt < (n : Int) → J 14 [some (.ref (q o0)), some (.int x1), some (.int z2_14)] [] (cw A0 g K nn dn q w e v f) 0 0 := by
      intro n
      induction n with
      | zero =>
        intro z2_14 j0_14 j1_14
        omega
      | succ n ih7 =>
        intro z2_14 j0_14 j1_14
        refine hC.1 2 14 _ _ rfl _ _ _ _ _ ?_
        refine pq_iload_n2 (pq_aload_n0 (qgr_3 hI.1 ho0 ?_))
        have z8 := cw_sz hI ho0
        refine pq_icmp_ge ?_
        refine And.intro (fun c9 => ?_) (fun c9 => ?_)
        · skip
          refine hC.1 4 45 _ _ rfl _ _ _ _ _ ?_
          have km1 : (-1 : Int32).toInt = -1 := rfl
          refine pq_iconst (pq_iret ?_)
          exact ⟨rfl, fun e9 => absurd e9 (by decide), rfl, (-1 : Int32), rfl, rfl, by exact True.intro⟩
        · skip
          refine pq_aload_n0 (qgr_0 hI.1 ho0 (pq_iload_n2 (qlc_r1 hI.1 ho0 (by omega) ?_)))
          have w10 := cw_col hI ho0 (z2_14).toInt.toNat
          refine pq_aload_n0 (qgr_0 hI.1 ho0 (pq_iload_n1 (qlc_r1 hI.1 ho0 (by omega) ?_)))
          have w11 := cw_col hI ho0 (x1).toInt.toNat
          refine pq_icmp_ne ?_
          refine And.intro (fun c12 => ?_) (fun c12 => ?_)
          · skip
            have dc12 := pm_neI c12
            refine hC.1 3 39 _ _ rfl _ _ _ _ _ ?_
            refine pq_iinc (fun zm_9 => [some (.ref (q o0)), some (.int x1), some (.int zm_9)]) rfl (fun _ => rfl) ?_
            intro m13 em_39
            try have e13 : m13.toInt = (z2_14).toInt + (1) := by rw [em_39]; exact pm_addc _ _ (1) rfl (by omega) (by omega)
            refine pq_goto ?_
            exact ih7 m13 (by omega) (by omega)
          · skip
            have dc12 : ((e (o0 + 1) (z2_14).toInt.toNat)).toInt = ((e (o0 + 1) (x1).toInt.toNat) : Int32).toInt := congrArg Int32.toInt c12
            refine pq_iload_n2 (pq_iret ?_)
            exact ⟨rfl, fun e9 => absurd e9 (by decide), rfl, z2_14, rfl, rfl, by exact True.intro⟩
    exact lp6 (200 - m4.toInt).toNat.succ m4 (by omega) (by omega)
  · skip
    have k0 : (0 : Int32).toInt = 0 := rfl
    refine pq_id1 (pq_icond_ne ?_)
    refine And.intro (fun c9 => absurd c9 (by decide)) (fun _ => ?_)
    have km1 : (-1 : Int32).toInt = -1 := rfl
    refine pq_iconst (pq_iret ?_)
    exact ⟨rfl, fun e9 => absurd e9 (by decide), rfl, (-1 : Int32), rfl, rfl, by exact True.intro⟩

set_option maxRecDepth 100000 in
set_option maxHeartbeats 2000000 in
theorem c_X7_howMany (hI : cw_I K nn dn q w e) (hs : cw_S v f) {o0 : Nat} (ho0 : cw_ro K o0) (x1 : Int32)  : pm_Mt l g 48 0 0 0 [.ref (q o0), .int x1] (cw A0 g K nn dn q w e v f) (md_Qp (cw A0 g K nn dn q w e v f) (fun r => True)) := by
  refine mt_X7_howMany rfl (fun J hC => ?_)
  have ro_nn : cw_ro K nn := hI.2.1.2.1
  have ro_dn : cw_ro K dn := hI.2.1.2.2.1
  have hu1 := hI.2.1
  unfold cw_W at hu1
  have rg_x1 := pm_rng x1
  have zz0 := cw_sz hI ho0
  show J 0 [some (.ref (q o0)), some (.int x1), none, none] [] (cw A0 g K nn dn q w e v f) 0 0
  refine hC.1 0 0 _ _ rfl _ _ _ _ _ ?_
  have k0 : (0 : Int32).toInt = 0 := rfl
  refine pq_iconst (pq_istore_n [some (.ref (q o0)), some (.int x1), some (.int (0 : Int32)), none] rfl (pq_iconst (pq_istore_n [some (.ref (q o0)), some (.int x1), some (.int (0 : Int32)), some (.int (0 : Int32))] rfl (pq_nil ?_))))
  have lp3 : ∀ (n : Nat) (z2_4 : Int32) (z3_4 : Int32), (0 ≤ z3_4.toInt ∧ z3_4.toInt ≤ 160) → 200 - z3_4.toInt < (n : Int) → J 4 [some (.ref (q o0)), some (.int x1), some (.int z2_4), some (.int z3_4)] [] (cw A0 g K nn dn q w e v f) 0 0 := by
    intro n
    induction n with
    | zero =>
      intro z2_4 z3_4 j0_4 j1_4
      omega
    | succ n ih4 =>
      intro z2_4 z3_4 j0_4 j1_4
      refine hC.1 1 4 _ _ rfl _ _ _ _ _ ?_
      refine pq_iload_n3 (pq_aload_n0 (qgr_3 hI.1 ho0 ?_))
      have z5 := cw_sz hI ho0
      refine pq_icmp_ge ?_
      refine And.intro (fun c6 => ?_) (fun c6 => ?_)
      · skip
        refine hC.1 3 31 _ _ rfl _ _ _ _ _ ?_
        refine pq_iload_n2 (pq_iret ?_)
        exact ⟨rfl, fun e9 => absurd e9 (by decide), rfl, z2_4, rfl, rfl, by exact True.intro⟩
      · skip
        refine pq_aload_n0 (qgr_0 hI.1 ho0 (pq_iload_n3 (qlc_r1 hI.1 ho0 (by omega) ?_)))
        have w7 := cw_col hI ho0 (z3_4).toInt.toNat
        refine pq_iload_n1 (pq_icmp_ne ?_)
        refine And.intro (fun c8 => ?_) (fun c8 => ?_)
        · skip
          have dc8 := pm_neI c8
          refine hC.1 2 25 _ _ rfl _ _ _ _ _ ?_
          have k1 : (1 : Int32).toInt = 1 := rfl
          refine pq_iinc (fun zm_9 => [some (.ref (q o0)), some (.int x1), some (.int z2_4), some (.int zm_9)]) rfl (fun _ => rfl) ?_
          intro m9 em_25
          try have e9 : m9.toInt = (z3_4).toInt + (1) := by rw [em_25]; exact pm_addc _ _ (1) rfl (by omega) (by omega)
          refine pq_goto ?_
          exact ih4 z2_4 m9 (by omega) (by omega)
        · skip
          have dc8 : ((e (o0 + 1) (z3_4).toInt.toNat)).toInt = (x1 : Int32).toInt := congrArg Int32.toInt c8
          have k1 : (1 : Int32).toInt = 1 := rfl
          refine pq_iinc (fun zm_9 => [some (.ref (q o0)), some (.int x1), some (.int zm_9), some (.int z3_4)]) rfl (fun _ => rfl) ?_
          intro m10 em_22
          try have e10 : m10.toInt = (z2_4).toInt + (1) := by rw [em_22]; exact pm_addc _ _ (1) rfl (by omega) (by omega)
          refine pq_nil ?_
          refine hC.1 2 25 _ _ rfl _ _ _ _ _ ?_
          refine pq_iinc (fun zm_9 => [some (.ref (q o0)), some (.int x1), some (.int m10), some (.int zm_9)]) rfl (fun _ => rfl) ?_
          intro m11 em_25
          try have e11 : m11.toInt = (z3_4).toInt + (1) := by rw [em_25]; exact pm_addc _ _ (1) rfl (by omega) (by omega)
          refine pq_goto ?_
          exact ih4 m10 m11 (by omega) (by omega)
  exact lp3 (200 - (0 : Int32).toInt).toNat.succ (0 : Int32) (0 : Int32) (by omega) (by omega)

set_option maxRecDepth 100000 in
set_option maxHeartbeats 2000000 in
theorem c_X7_placeOfNth (hI : cw_I K nn dn q w e) (hs : cw_S v f) {o0 : Nat} (ho0 : cw_ro K o0) (x1 : Int32) (x2 : Int32)  : pm_Mt l g 49 0 0 0 [.ref (q o0), .int x1, .int x2] (cw A0 g K nn dn q w e v f) (md_Qp (cw A0 g K nn dn q w e v f) (fun r => True)) := by
  refine mt_X7_placeOfNth rfl (fun J hC => ?_)
  have ro_nn : cw_ro K nn := hI.2.1.2.1
  have ro_dn : cw_ro K dn := hI.2.1.2.2.1
  have hu1 := hI.2.1
  unfold cw_W at hu1
  have rg_x1 := pm_rng x1
  have rg_x2 := pm_rng x2
  have zz0 := cw_sz hI ho0
  show J 0 [some (.ref (q o0)), some (.int x1), some (.int x2), none, none] [] (cw A0 g K nn dn q w e v f) 0 0
  refine hC.1 0 0 _ _ rfl _ _ _ _ _ ?_
  have k0 : (0 : Int32).toInt = 0 := rfl
  refine pq_iconst (pq_istore_n [some (.ref (q o0)), some (.int x1), some (.int x2), some (.int (0 : Int32)), none] rfl (pq_iconst (pq_istore [some (.ref (q o0)), some (.int x1), some (.int x2), some (.int (0 : Int32)), some (.int (0 : Int32))] rfl (pq_nil ?_))))
  have lp3 : ∀ (n : Nat) (z3_5 : Int32) (z4_5 : Int32), (0 ≤ z4_5.toInt ∧ z4_5.toInt ≤ 160) → 200 - z4_5.toInt < (n : Int) → J 5 [some (.ref (q o0)), some (.int x1), some (.int x2), some (.int z3_5), some (.int z4_5)] [] (cw A0 g K nn dn q w e v f) 0 0 := by
    intro n
    induction n with
    | zero =>
      intro z3_5 z4_5 j0_5 j1_5
      omega
    | succ n ih4 =>
      intro z3_5 z4_5 j0_5 j1_5
      refine hC.1 1 5 _ _ rfl _ _ _ _ _ ?_
      refine pq_iload4 (pq_aload_n0 (qgr_3 hI.1 ho0 ?_))
      have z5 := cw_sz hI ho0
      refine pq_icmp_ge ?_
      refine And.intro (fun c6 => ?_) (fun c6 => ?_)
      · skip
        refine hC.1 4 42 _ _ rfl _ _ _ _ _ ?_
        have km1 : (-1 : Int32).toInt = -1 := rfl
        refine pq_iconst (pq_iret ?_)
        exact ⟨rfl, fun e9 => absurd e9 (by decide), rfl, (-1 : Int32), rfl, rfl, by exact True.intro⟩
      · skip
        refine pq_aload_n0 (qgr_0 hI.1 ho0 (pq_iload4 (qlc_r1 hI.1 ho0 (by omega) ?_)))
        have w7 := cw_col hI ho0 (z4_5).toInt.toNat
        refine pq_iload_n1 (pq_icmp_ne ?_)
        refine And.intro (fun c8 => ?_) (fun c8 => ?_)
        · skip
          have dc8 := pm_neI c8
          refine hC.1 3 36 _ _ rfl _ _ _ _ _ ?_
          have k1 : (1 : Int32).toInt = 1 := rfl
          refine pq_iinc (fun zm_9 => [some (.ref (q o0)), some (.int x1), some (.int x2), some (.int z3_5), some (.int zm_9)]) rfl (fun _ => rfl) ?_
          intro m9 em_36
          try have e9 : m9.toInt = (z4_5).toInt + (1) := by rw [em_36]; exact pm_addc _ _ (1) rfl (by omega) (by omega)
          refine pq_goto ?_
          exact ih4 z3_5 m9 (by omega) (by omega)
        · skip
          have dc8 : ((e (o0 + 1) (z4_5).toInt.toNat)).toInt = (x1 : Int32).toInt := congrArg Int32.toInt c8
          refine pq_iload_n3 (pq_iload_n2 (pq_icmp_ne ?_))
          refine And.intro (fun c10 => ?_) (fun c10 => ?_)
          · skip
            have dc10 := pm_neI c10
            refine hC.1 2 33 _ _ rfl _ _ _ _ _ ?_
            have k1 : (1 : Int32).toInt = 1 := rfl
            refine pq_iinc (fun zm_9 => [some (.ref (q o0)), some (.int x1), some (.int x2), some (.int zm_9), some (.int z4_5)]) rfl (fun _ => rfl) ?_
            intro m11 em_33
            try have e11 : m11.toInt = (z3_5).toInt + (1) := by rw [em_33]; exact pm_addc _ _ (1) rfl (by omega) (by omega)
            refine pq_nil ?_
            refine hC.1 3 36 _ _ rfl _ _ _ _ _ ?_
            refine pq_iinc (fun zm_9 => [some (.ref (q o0)), some (.int x1), some (.int x2), some (.int m11), some (.int zm_9)]) rfl (fun _ => rfl) ?_
            intro m12 em_36
            try have e12 : m12.toInt = (z4_5).toInt + (1) := by rw [em_36]; exact pm_addc _ _ (1) rfl (by omega) (by omega)
            refine pq_goto ?_
            exact ih4 m11 m12 (by omega) (by omega)
          · skip
            have dc10 : (z3_5).toInt = (x2 : Int32).toInt := congrArg Int32.toInt c10
            refine pq_iload4 (pq_iret ?_)
            exact ⟨rfl, fun e9 => absurd e9 (by decide), rfl, z4_5, rfl, rfl, by exact True.intro⟩
  exact lp3 (200 - (0 : Int32).toInt).toNat.succ (0 : Int32) (0 : Int32) (by omega) (by omega)

set_option maxRecDepth 100000 in
set_option maxHeartbeats 2000000 in
theorem c_X7_widestGap (hI : cw_I K nn dn q w e) (hs : cw_S v f) {o0 : Nat} (ho0 : cw_ro K o0) (x1 : Int32)  : pm_Mt l g 50 1 0 0 [.ref (q o0), .int x1] (cw A0 g K nn dn q w e v f) (md_Qp (cw A0 g K nn dn q w e v f) (fun r => True)) := by
  refine mt_X7_widestGap rfl (fun J hC => ?_)
  have ro_nn : cw_ro K nn := hI.2.1.2.1
  have ro_dn : cw_ro K dn := hI.2.1.2.2.1
  have hu1 := hI.2.1
  unfold cw_W at hu1
  have rg_x1 := pm_rng x1
  have zz0 := cw_sz hI ho0
  show J 0 [some (.ref (q o0)), some (.int x1), none, none] [] (cw A0 g K nn dn q w e v f) 0 0
  refine hC.1 0 0 _ _ rfl _ _ _ _ _ ?_
  have km1 : (-1 : Int32).toInt = -1 := rfl
  refine pq_iconst (pq_istore_n [some (.ref (q o0)), some (.int x1), some (.int (-1 : Int32)), none] rfl ?_)
  have k0 : (0 : Int32).toInt = 0 := rfl
  refine pq_iconst (pq_istore_n [some (.ref (q o0)), some (.int x1), some (.int (-1 : Int32)), some (.int (0 : Int32))] rfl (pq_nil ?_))
  have lp3 : ∀ (n : Nat) (z2_4 : Int32) (z3_4 : Int32), (0 ≤ z3_4.toInt ∧ z3_4.toInt ≤ 160) → 200 - z3_4.toInt < (n : Int) → J 4 [some (.ref (q o0)), some (.int x1), some (.int z2_4), some (.int z3_4)] [] (cw A0 g K nn dn q w e v f) 0 0 := by
    intro n
    induction n with
    | zero =>
      intro z2_4 z3_4 j0_4 j1_4
      omega
    | succ n ih4 =>
      intro z2_4 z3_4 j0_4 j1_4
      refine hC.1 1 4 _ _ rfl _ _ _ _ _ ?_
      refine pq_iload_n3 (pq_aload_n0 (qgr_3 hI.1 ho0 ?_))
      have z5 := cw_sz hI ho0
      refine pq_icmp_ge ?_
      refine And.intro (fun c6 => ?_) (fun c6 => ?_)
      · skip
        refine hC.1 3 53 _ _ rfl _ _ _ _ _ ?_
        refine pq_iload_n2 (pq_iret ?_)
        exact ⟨rfl, fun e9 => absurd e9 (by decide), rfl, z2_4, rfl, rfl, by exact True.intro⟩
      · skip
        refine pq_aload_n0 (qgr_0 hI.1 ho0 (pq_iload_n3 (qlc_r1 hI.1 ho0 (by omega) ?_)))
        have w7 := cw_col hI ho0 (z3_4).toInt.toNat
        refine pq_iload_n1 (pq_icmp_ne ?_)
        refine And.intro (fun c8 => ?_) (fun c8 => ?_)
        · skip
          have dc8 := pm_neI c8
          refine hC.1 2 47 _ _ rfl _ _ _ _ _ ?_
          have k1 : (1 : Int32).toInt = 1 := rfl
          refine pq_iinc (fun zm_9 => [some (.ref (q o0)), some (.int x1), some (.int z2_4), some (.int zm_9)]) rfl (fun _ => rfl) ?_
          intro m9 em_47
          try have e9 : m9.toInt = (z3_4).toInt + (1) := by rw [em_47]; exact pm_addc _ _ (1) rfl (by omega) (by omega)
          refine pq_goto ?_
          exact ih4 z2_4 m9 (by omega) (by omega)
        · skip
          have dc8 : ((e (o0 + 1) (z3_4).toInt.toNat)).toInt = (x1 : Int32).toInt := congrArg Int32.toInt c8
          refine pq_aload_n0 (qgr_2 hI.1 ho0 (pq_iload_n3 (qlc_r3 hI.1 ho0 (by omega) ?_)))
          have w10 := cw_ahd hI ho0 (z3_4).toInt.toNat
          refine pq_iconst (pq_icmp_eq ?_)
          refine And.intro (fun c11 => ?_) (fun c11 => ?_)
          · skip
            have dc11 : ((e (o0 + 3) (z3_4).toInt.toNat)).toInt = ((-1 : Int32) : Int32).toInt := congrArg Int32.toInt c11
            refine hC.1 2 47 _ _ rfl _ _ _ _ _ ?_
            have k1 : (1 : Int32).toInt = 1 := rfl
            refine pq_iinc (fun zm_9 => [some (.ref (q o0)), some (.int x1), some (.int z2_4), some (.int zm_9)]) rfl (fun _ => rfl) ?_
            intro m12 em_47
            try have e12 : m12.toInt = (z3_4).toInt + (1) := by rw [em_47]; exact pm_addc _ _ (1) rfl (by omega) (by omega)
            refine pq_goto ?_
            exact ih4 z2_4 m12 (by omega) (by omega)
          · skip
            have dc11 := pm_neI c11
            refine pq_iload_n2 (pq_iload_n3 (pq_aload_n0 (qgr_2 hI.1 ho0 (pq_iload_n3 (qlc_r3 hI.1 ho0 (by omega) ?_)))))
            have w13 := cw_ahd hI ho0 (z3_4).toInt.toNat
            refine pq_isub ?_
            intro m14 em_40
            try have e14 : m14.toInt = (z3_4).toInt - ((e (o0 + 3) (z3_4).toInt.toNat)).toInt := by rw [em_40]; exact pm_sub _ _ (by omega) (by omega)
            have k1 : (1 : Int32).toInt = 1 := rfl
            refine pq_iconst (pq_isub ?_)
            intro m15 em_42
            try have e15 : m15.toInt = (m14).toInt - (1) := by rw [em_42]; exact pm_subc _ _ (1) rfl (by omega) (by omega)
            refine pq_is2 ?_
            refine Exists.intro _ (Exists.intro _ (Exists.intro _ (Exists.intro _ (And.intro (c_J9_max_7cf53 (cw A0 g K nn dn q w e v f) z2_4 m15 ) (And.intro rfl (fun r9 A9 h9 => ?_))))))
            obtain ⟨y16, rfl, rfl, by16⟩ := h9
            refine pq_id1 (pq_istore_n [some (.ref (q o0)), some (.int x1), some (.int y16), some (.int z3_4)] rfl (pq_nil ?_))
            refine hC.1 2 47 _ _ rfl _ _ _ _ _ ?_
            refine pq_iinc (fun zm_9 => [some (.ref (q o0)), some (.int x1), some (.int y16), some (.int zm_9)]) rfl (fun _ => rfl) ?_
            intro m18 em_47
            try have e18 : m18.toInt = (z3_4).toInt + (1) := by rw [em_47]; exact pm_addc _ _ (1) rfl (by omega) (by omega)
            refine pq_goto ?_
            exact ih4 y16 m18 (by omega) (by omega)
  exact lp3 (200 - (0 : Int32).toInt).toNat.succ (-1 : Int32) (0 : Int32) (by omega) (by omega)

end
end
section
section
variable {l : Launch} {g : pm_G} {A0 : pm_H} {K nn dn : Nat} {q : Nat → Nat} {w : Nat → Int32} {e : Nat → Nat → Int32} {v : Nat → Int32} {f : Nat → Nat → Int32}
set_option maxRecDepth 100000 in
set_option maxHeartbeats 2000000 in
theorem c_X9_behind (hI : cw_I K nn dn q w e) (hs : cw_S v f) (x1 : Int32)  : pm_Mt l g 149 0 0 0 [.ref (q 1), .int x1] (cw A0 g K nn dn q w e v f) (fun r A9 => A9 = (cw A0 g K nn dn q w e v f) ∧ (r = some .null ∨ ∃ o9, r = some (.ref (q o9)) ∧ cw_ro K o9)) := by
  refine mt_X9_behind rfl (fun J hC => ?_)
  have ro_nn : cw_ro K nn := hI.2.1.2.1
  have ro_dn : cw_ro K dn := hI.2.1.2.2.1
  have hu1 := hI.2.1
  unfold cw_W at hu1
  have rg_x1 := pm_rng x1
  show J 0 [some (.ref (q 1)), some (.int x1), none] [] (cw A0 g K nn dn q w e v f) 0 0
  refine hC.1 0 0 _ _ rfl _ _ _ _ _ ?_
  refine pq_iload_n1 (pq_icond_lt ?_)
  refine And.intro (fun c2 => ?_) (fun c2 => ?_)
  · skip
    refine hC.1 1 27 _ _ rfl _ _ _ _ _ ?_
    have k0 : (0 : Int32).toInt = 0 := rfl
    refine pq_iconst (pq_nil ?_)
    refine hC.1 2 28 _ _ rfl _ _ _ _ _ ?_
    refine pq_istore_n [some (.ref (q 1)), some (.int x1), some (.int (0 : Int32))] rfl (pq_iload_n2 (pq_icond_eq ?_))
    refine And.intro (fun _ => ?_) (fun c9 => absurd c9 (by decide))
    refine hC.1 3 45 _ _ rfl _ _ _ _ _ ?_
    refine pq_null (pq_nil ?_)
    refine hC.1 4 46 _ _ rfl _ _ _ _ _ ?_
    refine pq_aretN ?_
    exact ⟨rfl, rfl, rfl, Or.inl rfl⟩
  · skip
    refine pq_iload_n1 (pq_aload_n0 (qgc_1_5 hI.1 (pq_icmp_gt ?_)))
    refine And.intro (fun c3 => ?_) (fun c3 => ?_)
    · skip
      refine hC.1 1 27 _ _ rfl _ _ _ _ _ ?_
      have k0 : (0 : Int32).toInt = 0 := rfl
      refine pq_iconst (pq_nil ?_)
      refine hC.1 2 28 _ _ rfl _ _ _ _ _ ?_
      refine pq_istore_n [some (.ref (q 1)), some (.int x1), some (.int (0 : Int32))] rfl (pq_iload_n2 (pq_icond_eq ?_))
      refine And.intro (fun _ => ?_) (fun c9 => absurd c9 (by decide))
      refine hC.1 3 45 _ _ rfl _ _ _ _ _ ?_
      refine pq_null (pq_nil ?_)
      refine hC.1 4 46 _ _ rfl _ _ _ _ _ ?_
      refine pq_aretN ?_
      exact ⟨rfl, rfl, rfl, Or.inl rfl⟩
    · skip
      refine pq_iload_n1 (pq_aload_n0 (qgc_1_5 hI.1 ?_))
      have k40 : (40 : Int32).toInt = 40 := rfl
      refine pq_bipush (pq_isub ?_)
      intro m4 em_19
      try have e4 : m4.toInt = ((w 0)).toInt - (40) := by rw [em_19]; exact pm_subc _ _ (40) rfl (by omega) (by omega)
      refine pq_icmp_le ?_
      refine And.intro (fun c5 => ?_) (fun c5 => ?_)
      · skip
        refine hC.1 1 27 _ _ rfl _ _ _ _ _ ?_
        have k0 : (0 : Int32).toInt = 0 := rfl
        refine pq_iconst (pq_nil ?_)
        refine hC.1 2 28 _ _ rfl _ _ _ _ _ ?_
        refine pq_istore_n [some (.ref (q 1)), some (.int x1), some (.int (0 : Int32))] rfl (pq_iload_n2 (pq_icond_eq ?_))
        refine And.intro (fun _ => ?_) (fun c9 => absurd c9 (by decide))
        refine hC.1 3 45 _ _ rfl _ _ _ _ _ ?_
        refine pq_null (pq_nil ?_)
        refine hC.1 4 46 _ _ rfl _ _ _ _ _ ?_
        refine pq_aretN ?_
        exact ⟨rfl, rfl, rfl, Or.inl rfl⟩
      · skip
        have k1 : (1 : Int32).toInt = 1 := rfl
        refine pq_iconst (pq_goto ?_)
        refine hC.1 2 28 _ _ rfl _ _ _ _ _ ?_
        refine pq_istore_n [some (.ref (q 1)), some (.int x1), some (.int (1 : Int32))] rfl (pq_iload_n2 (pq_icond_eq ?_))
        refine And.intro (fun c9 => absurd c9 (by decide)) (fun _ => ?_)
        refine pq_aload_n0 (qgc_1_0 hI.1 (pq_iload_n1 ?_))
        have k41 : (41 : Int32).toInt = 41 := rfl
        refine pq_bipush (pq_irem ?_)
        refine And.intro (by decide) ?_
        intro m6 em_40
        try have e6 := pm_rem x1 (41 : Int32) (by omega) (by omega)
        try rw [← em_40] at e6
        refine pq_aaload ?_
        refine Exists.intro _ (Exists.intro _ (And.intro (Or.inl (cw_rows hI.1)) (And.intro (by omega) ?_)))
        rcases cw_rr_c (K := K) q (m6).toInt.toNat with hr7 | ⟨o7, hr7, ho7⟩
        · skip
          rw [hr7]
          refine pq_vn (pq_goto ?_)
          refine hC.1 4 46 _ _ rfl _ _ _ _ _ ?_
          refine pq_aretN ?_
          exact ⟨rfl, rfl, rfl, Or.inl rfl⟩
        · skip
          rw [hr7]
          refine pq_vr (pq_goto ?_)
          refine hC.1 4 46 _ _ rfl _ _ _ _ _ ?_
          refine pq_aret ?_
          exact ⟨rfl, rfl, rfl, Or.inr ⟨o7, rfl, ho7⟩⟩

set_option maxRecDepth 100000 in
set_option maxHeartbeats 2000000 in
theorem c_X9_hasRoomFor (hI : cw_I K nn dn q w e) (hs : cw_S v f) (x1 : Int32) (p0 : -1000000 ≤ x1.toInt ∧ x1.toInt ≤ 1000000) : pm_Mt l g 27 0 0 0 [.ref (q 1), .int x1] (cw A0 g K nn dn q w e v f) (md_Qp (cw A0 g K nn dn q w e v f) (fun r => (r = 1 ∧ ((w nn).toInt + x1.toInt ≤ 160 ∧ (w 1).toInt + x1.toInt ≤ 10000)) ∨ (r = 0 ∧ (¬ ((w nn).toInt + x1.toInt ≤ 160 ∧ (w 1).toInt + x1.toInt ≤ 10000))))) := by
  refine mt_X9_hasRoomFor rfl (fun J hC => ?_)
  have ro_nn : cw_ro K nn := hI.2.1.2.1
  have ro_dn : cw_ro K dn := hI.2.1.2.2.1
  have hu1 := hI.2.1
  unfold cw_W at hu1
  have rg_x1 := pm_rng x1
  show J 0 [some (.ref (q 1)), some (.int x1)] [] (cw A0 g K nn dn q w e v f) 0 0
  refine hC.1 0 0 _ _ rfl _ _ _ _ _ ?_
  refine pq_aload_n0 (qgc_1_4 hI.1 (qgr_3 hI.1 ro_nn ?_))
  have z2 := cw_sz hI ro_nn
  refine pq_iload_n1 (pq_iadd ?_)
  intro m3 em_8
  try have e3 : m3.toInt = ((w nn)).toInt + (x1).toInt := by rw [em_8]; exact pm_add _ _ (by omega) (by omega)
  have k160 : (160 : Int32).toInt = 160 := rfl
  refine pq_sipush (pq_icmp_gt ?_)
  refine And.intro (fun c4 => ?_) (fun c4 => ?_)
  · skip
    refine hC.1 1 31 _ _ rfl _ _ _ _ _ ?_
    have k0 : (0 : Int32).toInt = 0 := rfl
    refine pq_iconst (pq_nil ?_)
    refine hC.1 2 32 _ _ rfl _ _ _ _ _ ?_
    refine pq_iret ?_
    exact ⟨rfl, fun _ => (by decide), rfl, (0 : Int32), rfl, rfl, Or.inr ⟨rfl, by first | omega | (dsimp only; omega) | trivial⟩⟩
  · skip
    refine pq_aload_n0 (qgc_1_6 hI.1 (pq_iload_n1 (pq_iadd ?_)))
    intro m5 em_20
    try have e5 : m5.toInt = ((w 1)).toInt + (x1).toInt := by rw [em_20]; exact pm_add _ _ (by omega) (by omega)
    have k10000 : (10000 : Int32).toInt = 10000 := rfl
    refine pq_sipush (pq_icmp_gt ?_)
    refine And.intro (fun c6 => ?_) (fun c6 => ?_)
    · skip
      refine hC.1 1 31 _ _ rfl _ _ _ _ _ ?_
      have k0 : (0 : Int32).toInt = 0 := rfl
      refine pq_iconst (pq_nil ?_)
      refine hC.1 2 32 _ _ rfl _ _ _ _ _ ?_
      refine pq_iret ?_
      exact ⟨rfl, fun _ => (by decide), rfl, (0 : Int32), rfl, rfl, Or.inr ⟨rfl, by first | omega | (dsimp only; omega) | trivial⟩⟩
    · skip
      have k1 : (1 : Int32).toInt = 1 := rfl
      refine pq_iconst (pq_goto ?_)
      refine hC.1 2 32 _ _ rfl _ _ _ _ _ ?_
      refine pq_iret ?_
      exact ⟨rfl, fun _ => (by decide), rfl, (1 : Int32), rfl, rfl, Or.inl ⟨rfl, by first | omega | (dsimp only; omega) | trivial⟩⟩

set_option maxRecDepth 100000 in
set_option maxHeartbeats 2000000 in
theorem c_X9_steadySince (hI : cw_I K nn dn q w e) (hs : cw_S v f) (x1 : Int32)  : pm_Mt l g 153 3 0 0 [.ref (q 1), .int x1] (cw A0 g K nn dn q w e v f) (md_Qp (cw A0 g K nn dn q w e v f) (fun r => True)) := by
  refine mt_X9_steadySince rfl (fun J hC => ?_)
  have ro_nn : cw_ro K nn := hI.2.1.2.1
  have ro_dn : cw_ro K dn := hI.2.1.2.2.1
  have hu1 := hI.2.1
  unfold cw_W at hu1
  have rg_x1 := pm_rng x1
  show J 0 [some (.ref (q 1)), some (.int x1), none, none, none, none] [] (cw A0 g K nn dn q w e v f) 0 0
  refine hC.1 0 0 _ _ rfl _ _ _ _ _ ?_
  refine pq_aload_n0 (qgc_1_4 hI.1 (pq_iload_n1 (pq_iv1_7 ?_)))
  refine And.intro (Exists.intro _ (cw_ro_o hI.1 ro_nn)) (Exists.intro _ (Exists.intro _ (Exists.intro _ (Exists.intro _ (And.intro (c_X7_placeOf hI hs ro_nn x1 ) (And.intro rfl (fun r9 A9 h9 => ?_)))))))
  obtain ⟨y2, rfl, rfl, by2⟩ := h9
  refine pq_id1 (pq_istore_n [some (.ref (q 1)), some (.int x1), some (.int y2), none, none, none] rfl (pq_iload_n2 ?_))
  have km1 : (-1 : Int32).toInt = -1 := rfl
  refine pq_iconst (pq_icmp_ne ?_)
  refine And.intro (fun c4 => ?_) (fun c4 => ?_)
  · skip
    have dc4 := pm_neI c4
    refine hC.1 1 16 _ _ rfl _ _ _ _ _ ?_
    refine pq_aload_n0 (qgc_1_4 hI.1 (pq_iload_n2 (pq_iv1_7 ?_)))
    refine And.intro (Exists.intro _ (cw_ro_o hI.1 ro_nn)) (Exists.intro _ (Exists.intro _ (Exists.intro _ (Exists.intro _ (And.intro (c_X7_bondAt hI hs ro_nn y2 ) (And.intro rfl (fun r9 A9 h9 => ?_)))))))
    obtain ⟨y5, rfl, rfl, by5⟩ := h9
    refine pq_id1 (pq_istore_n [some (.ref (q 1)), some (.int x1), some (.int y2), some (.int y5), none, none] rfl (pq_aload_n0 (qgc_1_5 hI.1 ?_)))
    have k1 : (1 : Int32).toInt = 1 := rfl
    refine pq_iconst (pq_isub ?_)
    intro m7 em_30
    try have e7 : m7.toInt = ((w 0)).toInt - (1) := by rw [em_30]; exact pm_subc _ _ (1) rfl (by omega) (by omega)
    refine pq_istore [some (.ref (q 1)), some (.int x1), some (.int y2), some (.int y5), some (.int m7), none] rfl (pq_nil ?_)
    have lp9 : ∀ (n : Nat) (z4_33 : Int32), (-1 ≤ z4_33.toInt ∧ z4_33.toInt ≤ (w 0).toInt) → z4_33.toInt + 1 < (n : Int) → J 33 [some (.ref (q 1)), some (.int x1), some (.int y2), some (.int y5), some (.int z4_33), none] [] (cw A0 g K nn dn q w e v f) 0 0 := by
      intro n
      induction n with
      | zero =>
        intro z4_33 j0_33 j1_33
        omega
      | succ n ih10 =>
        intro z4_33 j0_33 j1_33
        refine hC.1 2 33 _ _ rfl _ _ _ _ _ ?_
        refine pq_iload4 (pq_icond_lt ?_)
        refine And.intro (fun c11 => ?_) (fun c11 => ?_)
        · skip
          refine hC.1 5 86 _ _ rfl _ _ _ _ _ ?_
          have k0 : (0 : Int32).toInt = 0 := rfl
          refine pq_iconst (pq_iret ?_)
          exact ⟨rfl, fun e9 => absurd e9 (by decide), rfl, (0 : Int32), rfl, rfl, by exact True.intro⟩
        · skip
          refine pq_aload_n0 (pq_iload4 (pq_iv1_9 ?_))
          refine And.intro (Exists.intro _ (cw_o1 hI.1)) (Exists.intro _ (Exists.intro _ (Exists.intro _ (Exists.intro _ (And.intro (c_X9_behind hI hs z4_33 ) (And.intro rfl (fun r9 A9 h9 => ?_)))))))
          rcases h9 with ⟨rfl, rfl | ⟨o13, rfl, ho13⟩⟩
          · skip
            refine pq_idn (pq_astoreN [some (.ref (q 1)), some (.int x1), some (.int y2), some (.int y5), some (.int z4_33), some .null] rfl (pq_aload5N (pq_ifnullN ?_)))
            refine hC.1 3 75 _ _ rfl _ _ _ _ _ ?_
            refine pq_iload4 (pq_iconst (pq_iadd ?_))
            intro m14 em_78
            try have e14 : m14.toInt = (z4_33).toInt + (1) := by rw [em_78]; exact pm_addc _ _ (1) rfl (by omega) (by omega)
            refine pq_iret ?_
            exact ⟨rfl, fun e9 => absurd e9 (by decide), rfl, m14, rfl, rfl, by exact True.intro⟩
          · skip
            refine pq_idr (pq_astore [some (.ref (q 1)), some (.int x1), some (.int y2), some (.int y5), some (.int z4_33), some (.ref (q o13))] rfl (pq_aload5 (pq_ifnull (pq_aload5 (pq_iload_n1 (pq_iv1_7 ?_))))))
            refine And.intro (Exists.intro _ (cw_ro_o hI.1 ho13)) (Exists.intro _ (Exists.intro _ (Exists.intro _ (Exists.intro _ (And.intro (c_X7_hasName hI hs ho13 x1 ) (And.intro rfl (fun r9 A9 h9 => ?_)))))))
            rcases h9 with ⟨y15, rfl, rfl, ⟨rfl, by15⟩ | ⟨rfl, by15⟩⟩
            · skip
              refine pq_id1 (pq_icond_eq ?_)
              refine And.intro (fun c9 => absurd c9 (by decide)) (fun _ => ?_)
              refine pq_aload5 (pq_aload5 (pq_iload_n1 (pq_iv1_7 ?_)))
              refine And.intro (Exists.intro _ (cw_ro_o hI.1 ho13)) (Exists.intro _ (Exists.intro _ (Exists.intro _ (Exists.intro _ (And.intro (c_X7_placeOf hI hs ho13 x1 ) (And.intro rfl (fun r9 A9 h9 => ?_)))))))
              obtain ⟨y17, rfl, rfl, by17⟩ := h9
              refine pq_id1 (pq_iv1_7 ?_)
              refine And.intro (Exists.intro _ (cw_ro_o hI.1 ho13)) (Exists.intro _ (Exists.intro _ (Exists.intro _ (Exists.intro _ (And.intro (c_X7_bondAt hI hs ho13 y17 ) (And.intro rfl (fun r9 A9 h9 => ?_)))))))
              obtain ⟨y19, rfl, rfl, by19⟩ := h9
              refine pq_id1 (pq_iload_n3 (pq_icmp_eq ?_))
              refine And.intro (fun c21 => ?_) (fun c21 => ?_)
              · skip
                have dc21 : (y19).toInt = (y5 : Int32).toInt := congrArg Int32.toInt c21
                refine hC.1 4 80 _ _ rfl _ _ _ _ _ ?_
                refine pq_iinc (fun zm_9 => [some (.ref (q 1)), some (.int x1), some (.int y2), some (.int y5), some (.int zm_9), some (.ref (q o13))]) rfl (fun _ => rfl) ?_
                intro m22 em_80
                try have e22 : m22.toInt = (z4_33).toInt + (-1) := by rw [em_80]; exact pm_addc _ _ (-1) rfl (by omega) (by omega)
                refine pq_goto ?_
                exact hC.2 [false, false, false, false, false, true] _ _ _ _ _ _ (ih10 m22 (by omega) (by omega))
              · skip
                have dc21 := pm_neI c21
                refine pq_nil ?_
                refine hC.1 3 75 _ _ rfl _ _ _ _ _ ?_
                refine pq_iload4 (pq_iconst (pq_iadd ?_))
                intro m23 em_78
                try have e23 : m23.toInt = (z4_33).toInt + (1) := by rw [em_78]; exact pm_addc _ _ (1) rfl (by omega) (by omega)
                refine pq_iret ?_
                exact ⟨rfl, fun e9 => absurd e9 (by decide), rfl, m23, rfl, rfl, by exact True.intro⟩
            · skip
              have k0 : (0 : Int32).toInt = 0 := rfl
              refine pq_id1 (pq_icond_eq ?_)
              refine And.intro (fun _ => ?_) (fun c9 => absurd c9 (by decide))
              refine hC.1 3 75 _ _ rfl _ _ _ _ _ ?_
              refine pq_iload4 (pq_iconst (pq_iadd ?_))
              intro m24 em_78
              try have e24 : m24.toInt = (z4_33).toInt + (1) := by rw [em_78]; exact pm_addc _ _ (1) rfl (by omega) (by omega)
              refine pq_iret ?_
              exact ⟨rfl, fun e9 => absurd e9 (by decide), rfl, m24, rfl, rfl, by exact True.intro⟩
    exact lp9 (m7.toInt + 1).toNat.succ m7 (by omega) (by omega)
  · skip
    have dc4 : (y2).toInt = ((-1 : Int32) : Int32).toInt := congrArg Int32.toInt c4
    refine pq_iconst (pq_iret ?_)
    exact ⟨rfl, fun e9 => absurd e9 (by decide), rfl, (-1 : Int32), rfl, rfl, by exact True.intro⟩

set_option maxRecDepth 100000 in
set_option maxHeartbeats 2000000 in
theorem c_X9_isUnlike (hI : cw_I K nn dn q w e) (hs : cw_S v f) {o1 : Nat} (ho1 : cw_ro K o1) (x2 : Int32) (x3 : Int32) (x4 : Int32)  : pm_Mt l g 157 4 0 0 [.ref (q 1), .ref (q o1), .int x2, .int x3, .int x4] (cw A0 g K nn dn q w e v f) (md_Qp (cw A0 g K nn dn q w e v f) (fun r => (r = 1 ∧ (True)) ∨ (r = 0 ∧ (True)))) := by
  refine mt_X9_isUnlike rfl (fun J hC => ?_)
  have ro_nn : cw_ro K nn := hI.2.1.2.1
  have ro_dn : cw_ro K dn := hI.2.1.2.2.1
  have hu1 := hI.2.1
  unfold cw_W at hu1
  have rg_x2 := pm_rng x2
  have rg_x3 := pm_rng x3
  have rg_x4 := pm_rng x4
  show J 0 [some (.ref (q 1)), some (.ref (q o1)), some (.int x2), some (.int x3), some (.int x4)] [] (cw A0 g K nn dn q w e v f) 0 0
  refine hC.1 0 0 _ _ rfl _ _ _ _ _ ?_
  refine pq_iload4 (pq_ts ?_)
  refine pm_swc 3 rfl (by decide) ?_ ?_
  · intro _
    refine hC.1 8 65 _ _ rfl _ _ _ _ _ ?_
    refine pq_aload_n1 (pq_iload_n2 (pq_iv1_7 ?_))
    refine And.intro (Exists.intro _ (cw_ro_o hI.1 ho1)) (Exists.intro _ (Exists.intro _ (Exists.intro _ (Exists.intro _ (And.intro (c_X7_bondAt hI hs ho1 x2 ) (And.intro rfl (fun r9 A9 h9 => ?_)))))))
    obtain ⟨y4, rfl, rfl, by4⟩ := h9
    refine pq_id1 (pq_aload_n0 (qgc_1_4 hI.1 (pq_iload_n3 (pq_iv1_7 ?_))))
    refine And.intro (Exists.intro _ (cw_ro_o hI.1 ro_nn)) (Exists.intro _ (Exists.intro _ (Exists.intro _ (Exists.intro _ (And.intro (c_X7_bondAt hI hs ro_nn x3 ) (And.intro rfl (fun r9 A9 h9 => ?_)))))))
    obtain ⟨y6, rfl, rfl, by6⟩ := h9
    refine pq_id1 (pq_icmp_eq ?_)
    refine And.intro (fun c8 => ?_) (fun c8 => ?_)
    · skip
      have dc8 : (y4).toInt = (y6 : Int32).toInt := congrArg Int32.toInt c8
      refine hC.1 9 85 _ _ rfl _ _ _ _ _ ?_
      have k0 : (0 : Int32).toInt = 0 := rfl
      refine pq_iconst (pq_nil ?_)
      refine hC.1 10 86 _ _ rfl _ _ _ _ _ ?_
      refine pq_iret ?_
      exact ⟨rfl, fun _ => (by decide), rfl, (0 : Int32), rfl, rfl, Or.inr ⟨rfl, by first | omega | (dsimp only; omega) | trivial⟩⟩
    · skip
      have dc8 := pm_neI c8
      have k1 : (1 : Int32).toInt = 1 := rfl
      refine pq_iconst (pq_goto ?_)
      refine hC.1 10 86 _ _ rfl _ _ _ _ _ ?_
      refine pq_iret ?_
      exact ⟨rfl, fun _ => (by decide), rfl, (1 : Int32), rfl, rfl, Or.inl ⟨rfl, by first | omega | (dsimp only; omega) | trivial⟩⟩
  · intro i9 hi9 he9
    rcases (show i9 = 0 ∨ i9 = 1 ∨ i9 = 2 by omega) with rfl | rfl | rfl
    · skip
      refine hC.1 1 28 _ _ rfl _ _ _ _ _ ?_
      have k1 : (1 : Int32).toInt = 1 := rfl
      refine pq_iconst (pq_iret ?_)
      exact ⟨rfl, fun _ => (by decide), rfl, (1 : Int32), rfl, rfl, Or.inl ⟨rfl, by first | omega | (dsimp only; omega) | trivial⟩⟩
    · skip
      refine hC.1 2 30 _ _ rfl _ _ _ _ _ ?_
      refine pq_iload_n2 (pq_iload_n3 (pq_icmp_eq ?_))
      refine And.intro (fun c9 => ?_) (fun c9 => ?_)
      · skip
        have dc9 : (x2).toInt = (x3 : Int32).toInt := congrArg Int32.toInt c9
        refine hC.1 3 39 _ _ rfl _ _ _ _ _ ?_
        have k0 : (0 : Int32).toInt = 0 := rfl
        refine pq_iconst (pq_nil ?_)
        refine hC.1 4 40 _ _ rfl _ _ _ _ _ ?_
        refine pq_iret ?_
        exact ⟨rfl, fun _ => (by decide), rfl, (0 : Int32), rfl, rfl, Or.inr ⟨rfl, by first | omega | (dsimp only; omega) | trivial⟩⟩
      · skip
        have dc9 := pm_neI c9
        have k1 : (1 : Int32).toInt = 1 := rfl
        refine pq_iconst (pq_goto ?_)
        refine hC.1 4 40 _ _ rfl _ _ _ _ _ ?_
        refine pq_iret ?_
        exact ⟨rfl, fun _ => (by decide), rfl, (1 : Int32), rfl, rfl, Or.inl ⟨rfl, by first | omega | (dsimp only; omega) | trivial⟩⟩
    · skip
      refine hC.1 5 41 _ _ rfl _ _ _ _ _ ?_
      refine pq_aload_n1 (pq_iload_n2 ?_)
      have k0 : (0 : Int32).toInt = 0 := rfl
      refine pq_iconst (pq_iv2_7 ?_)
      refine And.intro (Exists.intro _ (cw_ro_o hI.1 ho1)) (Exists.intro _ (Exists.intro _ (Exists.intro _ (Exists.intro _ (And.intro (c_X7_tell hI hs ho1 x2 (0 : Int32) ) (And.intro rfl (fun r9 A9 h9 => ?_)))))))
      obtain ⟨y10, rfl, rfl, by10⟩ := h9
      refine pq_id1 (pq_aload_n0 (qgc_1_4 hI.1 (pq_iload_n3 (pq_iconst (pq_iv2_7 ?_)))))
      refine And.intro (Exists.intro _ (cw_ro_o hI.1 ro_nn)) (Exists.intro _ (Exists.intro _ (Exists.intro _ (Exists.intro _ (And.intro (c_X7_tell hI hs ro_nn x3 (0 : Int32) ) (And.intro rfl (fun r9 A9 h9 => ?_)))))))
      obtain ⟨y12, rfl, rfl, by12⟩ := h9
      refine pq_id1 (pq_icmp_eq ?_)
      refine And.intro (fun c14 => ?_) (fun c14 => ?_)
      · skip
        have dc14 : (y10).toInt = (y12 : Int32).toInt := congrArg Int32.toInt c14
        refine hC.1 6 63 _ _ rfl _ _ _ _ _ ?_
        refine pq_iconst (pq_nil ?_)
        refine hC.1 7 64 _ _ rfl _ _ _ _ _ ?_
        refine pq_iret ?_
        exact ⟨rfl, fun _ => (by decide), rfl, (0 : Int32), rfl, rfl, Or.inr ⟨rfl, by first | omega | (dsimp only; omega) | trivial⟩⟩
      · skip
        have dc14 := pm_neI c14
        have k1 : (1 : Int32).toInt = 1 := rfl
        refine pq_iconst (pq_goto ?_)
        refine hC.1 7 64 _ _ rfl _ _ _ _ _ ?_
        refine pq_iret ?_
        exact ⟨rfl, fun _ => (by decide), rfl, (1 : Int32), rfl, rfl, Or.inl ⟨rfl, by first | omega | (dsimp only; omega) | trivial⟩⟩

set_option maxRecDepth 100000 in
set_option maxHeartbeats 2000000 in
theorem c_X9_unlikeNow (hI : cw_I K nn dn q w e) (hs : cw_S v f) {o1 : Nat} (ho1 : cw_ro K o1) (x2 : Int32)  : pm_Mt l g 156 5 0 0 [.ref (q 1), .ref (q o1), .int x2] (cw A0 g K nn dn q w e v f) (md_Qp (cw A0 g K nn dn q w e v f) (fun r => True)) := by
  refine mt_X9_unlikeNow rfl (fun J hC => ?_)
  have ro_nn : cw_ro K nn := hI.2.1.2.1
  have ro_dn : cw_ro K dn := hI.2.1.2.2.1
  have hu1 := hI.2.1
  unfold cw_W at hu1
  have rg_x2 := pm_rng x2
  have zz0 := cw_sz hI ro_nn
  show J 0 [some (.ref (q 1)), some (.ref (q o1)), some (.int x2), none, none, none] [] (cw A0 g K nn dn q w e v f) 0 0
  refine hC.1 0 0 _ _ rfl _ _ _ _ _ ?_
  have k0 : (0 : Int32).toInt = 0 := rfl
  refine pq_iconst (pq_istore_n [some (.ref (q 1)), some (.ref (q o1)), some (.int x2), some (.int (0 : Int32)), none, none] rfl (pq_iconst (pq_istore [some (.ref (q 1)), some (.ref (q o1)), some (.int x2), some (.int (0 : Int32)), some (.int (0 : Int32)), none] rfl (pq_nil ?_))))
  have lp3 : ∀ (n : Nat) (z3_5 : Int32) (z4_5 : Int32), (0 ≤ z4_5.toInt ∧ z4_5.toInt ≤ 160) → 200 - z4_5.toInt < (n : Int) → J 5 [some (.ref (q 1)), some (.ref (q o1)), some (.int x2), some (.int z3_5), some (.int z4_5), none] [] (cw A0 g K nn dn q w e v f) 0 0 := by
    intro n
    induction n with
    | zero =>
      intro z3_5 z4_5 j0_5 j1_5
      omega
    | succ n ih4 =>
      intro z3_5 z4_5 j0_5 j1_5
      refine hC.1 1 5 _ _ rfl _ _ _ _ _ ?_
      refine pq_iload4 (pq_aload_n0 (qgc_1_4 hI.1 (qgr_3 hI.1 ro_nn ?_)))
      have z5 := cw_sz hI ro_nn
      refine pq_icmp_ge ?_
      refine And.intro (fun c6 => ?_) (fun c6 => ?_)
      · skip
        refine hC.1 3 61 _ _ rfl _ _ _ _ _ ?_
        refine pq_iload_n3 (pq_iret ?_)
        exact ⟨rfl, fun e9 => absurd e9 (by decide), rfl, z3_5, rfl, rfl, by exact True.intro⟩
      · skip
        refine pq_aload_n1 (pq_aload_n0 (qgc_1_4 hI.1 (qgr_1 hI.1 ro_nn (pq_iload4 (qlc_r2 hI.1 ro_nn (by omega) (pq_iv1_7 ?_))))))
        refine And.intro (Exists.intro _ (cw_ro_o hI.1 ho1)) (Exists.intro _ (Exists.intro _ (Exists.intro _ (Exists.intro _ (And.intro (c_X7_placeOf hI hs ho1 (e (nn + 2) (z4_5).toInt.toNat) ) (And.intro rfl (fun r9 A9 h9 => ?_)))))))
        obtain ⟨y7, rfl, rfl, by7⟩ := h9
        refine pq_id1 (pq_istore [some (.ref (q 1)), some (.ref (q o1)), some (.int x2), some (.int z3_5), some (.int z4_5), some (.int y7)] rfl (pq_iload5 ?_))
        have km1 : (-1 : Int32).toInt = -1 := rfl
        refine pq_iconst (pq_icmp_eq ?_)
        refine And.intro (fun c9 => ?_) (fun c9 => ?_)
        · skip
          have dc9 : (y7).toInt = ((-1 : Int32) : Int32).toInt := congrArg Int32.toInt c9
          refine hC.1 2 55 _ _ rfl _ _ _ _ _ ?_
          have k1 : (1 : Int32).toInt = 1 := rfl
          refine pq_iinc (fun zm_9 => [some (.ref (q 1)), some (.ref (q o1)), some (.int x2), some (.int z3_5), some (.int zm_9), some (.int y7)]) rfl (fun _ => rfl) ?_
          intro m10 em_55
          try have e10 : m10.toInt = (z4_5).toInt + (1) := by rw [em_55]; exact pm_addc _ _ (1) rfl (by omega) (by omega)
          refine pq_goto ?_
          exact hC.2 [false, false, false, false, false, true] _ _ _ _ _ _ (ih4 z3_5 m10 (by omega) (by omega))
        · skip
          have dc9 := pm_neI c9
          refine pq_aload_n0 (pq_aload_n1 (pq_iload5 (pq_iload4 (pq_iload_n2 (pq_iv4_9 ?_)))))
          refine And.intro (Exists.intro _ (cw_o1 hI.1)) (Exists.intro _ (Exists.intro _ (Exists.intro _ (Exists.intro _ (And.intro (c_X9_isUnlike hI hs ho1 y7 z4_5 x2 ) (And.intro rfl (fun r9 A9 h9 => ?_)))))))
          rcases h9 with ⟨y11, rfl, rfl, ⟨rfl, by11⟩ | ⟨rfl, by11⟩⟩
          · skip
            have k1 : (1 : Int32).toInt = 1 := rfl
            refine pq_id1 (pq_icond_eq ?_)
            refine And.intro (fun c9 => absurd c9 (by decide)) (fun _ => ?_)
            refine pq_iinc (fun zm_9 => [some (.ref (q 1)), some (.ref (q o1)), some (.int x2), some (.int zm_9), some (.int z4_5), some (.int y7)]) rfl (fun _ => rfl) ?_
            intro m13 em_52
            try have e13 : m13.toInt = (z3_5).toInt + (1) := by rw [em_52]; exact pm_addc _ _ (1) rfl (by omega) (by omega)
            refine pq_nil ?_
            refine hC.1 2 55 _ _ rfl _ _ _ _ _ ?_
            refine pq_iinc (fun zm_9 => [some (.ref (q 1)), some (.ref (q o1)), some (.int x2), some (.int m13), some (.int zm_9), some (.int y7)]) rfl (fun _ => rfl) ?_
            intro m14 em_55
            try have e14 : m14.toInt = (z4_5).toInt + (1) := by rw [em_55]; exact pm_addc _ _ (1) rfl (by omega) (by omega)
            refine pq_goto ?_
            exact hC.2 [false, false, false, false, false, true] _ _ _ _ _ _ (ih4 m13 m14 (by omega) (by omega))
          · skip
            refine pq_id1 (pq_icond_eq ?_)
            refine And.intro (fun _ => ?_) (fun c9 => absurd c9 (by decide))
            refine hC.1 2 55 _ _ rfl _ _ _ _ _ ?_
            have k1 : (1 : Int32).toInt = 1 := rfl
            refine pq_iinc (fun zm_9 => [some (.ref (q 1)), some (.ref (q o1)), some (.int x2), some (.int z3_5), some (.int zm_9), some (.int y7)]) rfl (fun _ => rfl) ?_
            intro m15 em_55
            try have e15 : m15.toInt = (z4_5).toInt + (1) := by rw [em_55]; exact pm_addc _ _ (1) rfl (by omega) (by omega)
            refine pq_goto ?_
            exact hC.2 [false, false, false, false, false, true] _ _ _ _ _ _ (ih4 z3_5 m15 (by omega) (by omega))
  exact lp3 (200 - (0 : Int32).toInt).toNat.succ (0 : Int32) (0 : Int32) (by omega) (by omega)

set_option maxRecDepth 100000 in
set_option maxHeartbeats 2000000 in
theorem c_X2_clear (hI : cw_I K nn dn q w e) (hs : cw_S v f)   : pm_Mt l g 56 1 0 0 [.ref (q 2)] (cw A0 g K nn dn q w e v f) (cw_Qs A0 g K nn dn q w e (fun r v2 f2 => r = none ∧ (True))) := by
  refine mt_X2_clear rfl (fun J hC => ?_)
  have ro_nn : cw_ro K nn := hI.2.1.2.1
  have ro_dn : cw_ro K dn := hI.2.1.2.2.1
  have hu1 := hI.2.1
  unfold cw_W at hu1
  show J 0 [some (.ref (q 2))] [] (cw A0 g K nn dn q w e v f) 0 0
  refine hC.1 0 0 _ _ rfl _ _ _ _ _ ?_
  refine pq_aload_n0 (qgc_2_0 hI.1 ?_)
  have k0 : (0 : Int32).toInt = 0 := rfl
  refine pq_iconst (pq_is2 ?_)
  refine Exists.intro _ (Exists.intro _ (Exists.intro _ (Exists.intro _ (And.intro (c_fill (cw_a14 hI.1) (by decide) (0 : Int32)) (And.intro rfl (fun r9 A9 h9 => ?_))))))
  obtain ⟨rfl, rfl⟩ := h9
  rw [cw_s14 hI.1]
  obtain ⟨f2, ef2⟩ : ∃ z9, z9 = va_up f 14 (fun j => if j < 24 then (0 : Int32) else f 14 j) := ⟨_, rfl⟩
  rw [← ef2]
  have hs2 : cw_S v f2 := by rw [ef2]; exact cw_S_fr hs _ _ (by decide) (by decide)
  refine pq_id0 (pq_aload_n0 (pq_iconst ?_))
  refine quc_2_2 hI.1 (fun v3 ev3 => ?_)
  have hs3 : cw_S v3 f2 := by rw [ev3]; exact cw_S_v hs2 1 _ (by decide)
  have ev3_0 : (v3 0).toInt = (v 0).toInt := by rw [ev3]; rfl
  refine pq_aload_n0 (pq_iconst ?_)
  refine quc_2_3 hI.1 (fun v4 ev4 => ?_)
  have hs4 : cw_S v4 f2 := by rw [ev4]; exact cw_S_v hs3 2 _ (by decide)
  have ev4_0 : (v4 0).toInt = (v3 0).toInt := by rw [ev4]; rfl
  refine pq_aload_n0 (pq_iconst ?_)
  refine quc_2_4 hI.1 (fun v5 ev5 => ?_)
  have hs5 : cw_S v5 f2 := by rw [ev5]; exact cw_S_v hs4 3 _ (by decide)
  have ev5_0 : (v5 0).toInt = (v4 0).toInt := by rw [ev5]; rfl
  refine pq_aload_n0 (pq_iconst ?_)
  refine quc_2_5 hI.1 (fun v6 ev6 => ?_)
  have hs6 : cw_S v6 f2 := by rw [ev6]; exact cw_S_v hs5 4 _ (by decide)
  have ev6_0 : (v6 0).toInt = (v5 0).toInt := by rw [ev6]; rfl
  refine pq_ret ?_
  exact ⟨rfl, rfl, v6, f2, rfl, hs6, rfl, by exact True.intro⟩

set_option maxRecDepth 100000 in
set_option maxHeartbeats 2000000 in
theorem c_X2_take (hI : cw_I K nn dn q w e) (hs : cw_S v f) (x1 : Int32) (p0 : 0 ≤ x1.toInt ∧ x1.toInt ≤ 23) : pm_Mt l g 57 0 0 0 [.ref (q 2), .int x1] (cw A0 g K nn dn q w e v f) (cw_Qs A0 g K nn dn q w e (fun r v2 f2 => r = none ∧ (True))) := by
  refine mt_X2_take rfl (fun J hC => ?_)
  have ro_nn : cw_ro K nn := hI.2.1.2.1
  have ro_dn : cw_ro K dn := hI.2.1.2.2.1
  have hu1 := hI.2.1
  unfold cw_W at hu1
  have rg_x1 := pm_rng x1
  show J 0 [some (.ref (q 2)), some (.int x1)] [] (cw A0 g K nn dn q w e v f) 0 0
  refine hC.1 0 0 _ _ rfl _ _ _ _ _ ?_
  refine pq_aload_n0 (pq_dupr (qgc_2_2 hI.1 ?_))
  have k1 : (1 : Int32).toInt = 1 := rfl
  refine pq_iconst (pq_iadd ?_)
  intro m2 em_6
  try have e2 : m2.toInt = ((v 1)).toInt + (1) := by rw [em_6]; exact pm_addc _ _ (1) rfl (by omega) (by omega)
  refine quc_2_2 hI.1 (fun v3 ev3 => ?_)
  have hs3 : cw_S v3 f := by rw [ev3]; exact cw_S_v hs 1 _ (by decide)
  have ev3_0 : (v3 0).toInt = (v 0).toInt := by rw [ev3]; rfl
  refine pq_aload_n0 (qgc_2_0 hI.1 (pq_iload_n1 (pq_dup2 (qlc_14 hI.1 (by omega) (pq_iconst (pq_iadd ?_))))))
  intro m4 em_18
  try have e4 : m4.toInt = ((f 14 (x1).toInt.toNat)).toInt + (1) := by rw [em_18]; exact pm_addc _ _ (1) rfl (by omega) (by omega)
  refine qsc_14 hI.1 (by omega) (fun f5 ef5 => ?_)
  have hs5 : cw_S v3 f5 := by rw [ef5]; exact cw_S_fr hs3 _ _ (by decide) (by decide)
  refine pq_aload_n0 (qgc_2_0 hI.1 (pq_iload_n1 (qlc_14 hI.1 (by omega) (pq_iconst (pq_icmp_ne ?_)))))
  refine And.intro (fun c6 => ?_) (fun c6 => ?_)
  · skip
    have dc6 := pm_neI c6
    refine hC.1 1 67 _ _ rfl _ _ _ _ _ ?_
    refine pq_ret ?_
    exact ⟨rfl, rfl, v3, f5, rfl, hs5, rfl, by exact True.intro⟩
  · skip
    have dc6 : ((f5 14 (x1).toInt.toNat)).toInt = ((1 : Int32) : Int32).toInt := congrArg Int32.toInt c6
    refine pq_aload_n0 (pq_dupr (qgc_2_3 hI.1 (pq_iconst (pq_iadd ?_))))
    intro m7 em_36
    try have e7 : m7.toInt = ((v3 2)).toInt + (1) := by rw [em_36]; exact pm_addc _ _ (1) rfl (by omega) (by omega)
    refine quc_2_3 hI.1 (fun v8 ev8 => ?_)
    have hs8 : cw_S v8 f5 := by rw [ev8]; exact cw_S_v hs5 2 _ (by decide)
    have ev8_0 : (v8 0).toInt = (v3 0).toInt := by rw [ev8]; rfl
    refine pq_aload_n0 (pq_dupr (qgc_2_4 hI.1 (pq_iconst (pq_iload_n1 (pq_ishl (pq_ior ?_))))))
    refine quc_2_4 hI.1 (fun v9 ev9 => ?_)
    have hs9 : cw_S v9 f5 := by rw [ev9]; exact cw_S_v hs8 3 _ (by decide)
    have ev9_0 : (v9 0).toInt = (v8 0).toInt := by rw [ev9]; rfl
    refine pq_aload_n0 (pq_dupr (qgc_2_5 hI.1 (pq_aload_n0 (qgc_2_1 hI.1 (pq_iload_n1 (qlc_15 hI.1 (by omega) (pq_iadd ?_)))))))
    intro m10 em_63
    try have e10 : m10.toInt = ((v9 4)).toInt + ((e 15 (x1).toInt.toNat)).toInt := by rw [em_63]; exact pm_add _ _ (by omega) (by omega)
    refine quc_2_5 hI.1 (fun v11 ev11 => ?_)
    have hs11 : cw_S v11 f5 := by rw [ev11]; exact cw_S_v hs9 4 _ (by decide)
    have ev11_0 : (v11 0).toInt = (v9 0).toInt := by rw [ev11]; rfl
    refine pq_nil ?_
    refine hC.1 1 67 _ _ rfl _ _ _ _ _ ?_
    refine pq_ret ?_
    exact ⟨rfl, rfl, v11, f5, rfl, hs11, rfl, by exact True.intro⟩

end
end
section
section
variable {l : Launch} {g : pm_G} {A0 : pm_H} {K nn dn : Nat} {q : Nat → Nat} {w : Nat → Int32} {e : Nat → Nat → Int32} {v : Nat → Int32} {f : Nat → Nat → Int32}
set_option maxRecDepth 100000 in
set_option maxHeartbeats 2000000 in
theorem c_X2_drop (hI : cw_I K nn dn q w e) (hs : cw_S v f) (x1 : Int32) (p0 : 0 ≤ x1.toInt ∧ x1.toInt ≤ 23) : pm_Mt l g 113 0 0 0 [.ref (q 2), .int x1] (cw A0 g K nn dn q w e v f) (cw_Qs A0 g K nn dn q w e (fun r v2 f2 => r = none ∧ (True))) := by
  refine mt_X2_drop rfl (fun J hC => ?_)
  have ro_nn : cw_ro K nn := hI.2.1.2.1
  have ro_dn : cw_ro K dn := hI.2.1.2.2.1
  have hu1 := hI.2.1
  unfold cw_W at hu1
  have rg_x1 := pm_rng x1
  show J 0 [some (.ref (q 2)), some (.int x1)] [] (cw A0 g K nn dn q w e v f) 0 0
  refine hC.1 0 0 _ _ rfl _ _ _ _ _ ?_
  refine pq_aload_n0 (pq_dupr (qgc_2_2 hI.1 ?_))
  have k1 : (1 : Int32).toInt = 1 := rfl
  refine pq_iconst (pq_isub ?_)
  intro m2 em_6
  try have e2 : m2.toInt = ((v 1)).toInt - (1) := by rw [em_6]; exact pm_subc _ _ (1) rfl (by omega) (by omega)
  refine quc_2_2 hI.1 (fun v3 ev3 => ?_)
  have hs3 : cw_S v3 f := by rw [ev3]; exact cw_S_v hs 1 _ (by decide)
  have ev3_0 : (v3 0).toInt = (v 0).toInt := by rw [ev3]; rfl
  refine pq_aload_n0 (qgc_2_0 hI.1 (pq_iload_n1 (pq_dup2 (qlc_14 hI.1 (by omega) (pq_iconst (pq_isub ?_))))))
  intro m4 em_18
  try have e4 : m4.toInt = ((f 14 (x1).toInt.toNat)).toInt - (1) := by rw [em_18]; exact pm_subc _ _ (1) rfl (by omega) (by omega)
  refine qsc_14 hI.1 (by omega) (fun f5 ef5 => ?_)
  have hs5 : cw_S v3 f5 := by rw [ef5]; exact cw_S_fr hs3 _ _ (by decide) (by decide)
  refine pq_aload_n0 (qgc_2_0 hI.1 (pq_iload_n1 (qlc_14 hI.1 (by omega) (pq_icond_ne ?_))))
  refine And.intro (fun c6 => ?_) (fun c6 => ?_)
  · skip
    have dc6 := pm_neI c6
    have k0 : (0 : Int32).toInt = 0 := rfl
    refine hC.1 1 68 _ _ rfl _ _ _ _ _ ?_
    refine pq_ret ?_
    exact ⟨rfl, rfl, v3, f5, rfl, hs5, rfl, by exact True.intro⟩
  · skip
    have dc6 : ((f5 14 (x1).toInt.toNat)).toInt = (0 : Int32).toInt := congrArg Int32.toInt c6
    have k0 : (0 : Int32).toInt = 0 := rfl
    refine pq_aload_n0 (pq_dupr (qgc_2_3 hI.1 (pq_iconst (pq_isub ?_))))
    intro m7 em_35
    try have e7 : m7.toInt = ((v3 2)).toInt - (1) := by rw [em_35]; exact pm_subc _ _ (1) rfl (by omega) (by omega)
    refine quc_2_3 hI.1 (fun v8 ev8 => ?_)
    have hs8 : cw_S v8 f5 := by rw [ev8]; exact cw_S_v hs5 2 _ (by decide)
    have ev8_0 : (v8 0).toInt = (v3 0).toInt := by rw [ev8]; rfl
    refine pq_aload_n0 (pq_dupr (qgc_2_4 hI.1 (pq_iconst (pq_iload_n1 (pq_ishl ?_)))))
    have km1 : (-1 : Int32).toInt = -1 := rfl
    refine pq_iconst (pq_ixor (pq_iand ?_))
    refine quc_2_4 hI.1 (fun v9 ev9 => ?_)
    have hs9 : cw_S v9 f5 := by rw [ev9]; exact cw_S_v hs8 3 _ (by decide)
    have ev9_0 : (v9 0).toInt = (v8 0).toInt := by rw [ev9]; rfl
    refine pq_aload_n0 (pq_dupr (qgc_2_5 hI.1 (pq_aload_n0 (qgc_2_1 hI.1 (pq_iload_n1 (qlc_15 hI.1 (by omega) (pq_isub ?_)))))))
    intro m10 em_64
    try have e10 : m10.toInt = ((v9 4)).toInt - ((e 15 (x1).toInt.toNat)).toInt := by rw [em_64]; exact pm_sub _ _ (by omega) (by omega)
    refine quc_2_5 hI.1 (fun v11 ev11 => ?_)
    have hs11 : cw_S v11 f5 := by rw [ev11]; exact cw_S_v hs9 4 _ (by decide)
    have ev11_0 : (v11 0).toInt = (v9 0).toInt := by rw [ev11]; rfl
    refine pq_nil ?_
    refine hC.1 1 68 _ _ rfl _ _ _ _ _ ?_
    refine pq_ret ?_
    exact ⟨rfl, rfl, v11, f5, rfl, hs11, rfl, by exact True.intro⟩

set_option maxRecDepth 100000 in
set_option maxHeartbeats 2000000 in
theorem c_X2_read (hI : cw_I K nn dn q w e) (hs : cw_S v f) {o1 : Nat} (ho1 : cw_ro K o1) (x2 : Int32) (x3 : Int32)  : pm_Mt l g 55 2 0 0 [.ref (q 2), .ref (q o1), .int x2, .int x3] (cw A0 g K nn dn q w e v f) (cw_Qs A0 g K nn dn q w e (fun r v2 f2 => r = none ∧ (True))) := by
  refine mt_X2_read rfl (fun J hC => ?_)
  have ro_nn : cw_ro K nn := hI.2.1.2.1
  have ro_dn : cw_ro K dn := hI.2.1.2.2.1
  have hu1 := hI.2.1
  unfold cw_W at hu1
  have rg_x2 := pm_rng x2
  have rg_x3 := pm_rng x3
  have zz0 := cw_sz hI ho1
  show J 0 [some (.ref (q 2)), some (.ref (q o1)), some (.int x2), some (.int x3), none] [] (cw A0 g K nn dn q w e v f) 0 0
  refine hC.1 0 0 _ _ rfl _ _ _ _ _ ?_
  refine pq_aload_n0 (pq_iv0_2 ?_)
  refine And.intro (Exists.intro _ (cw_o2 hI.1)) (Exists.intro _ (Exists.intro _ (Exists.intro _ (Exists.intro _ (And.intro (c_X2_clear hI hs  ) (And.intro rfl (fun r9 A9 h9 => ?_)))))))
  rcases h9 with ⟨v3, f3, rfl, hs3, rfl, by2⟩
  refine pq_id0 (pq_iload_n2 (pq_istore [some (.ref (q 2)), some (.ref (q o1)), some (.int x2), some (.int x3), some (.int x2)] rfl (pq_nil ?_)))
  have lp5 : ∀ (n : Nat) (z4_7 : Int32) (v4 : Nat → Int32) (f4 : Nat → Nat → Int32), cw_S v4 f4 → ((200 - z4_7.toInt).toNat : Int) < (n : Int) → J 7 [some (.ref (q 2)), some (.ref (q o1)), some (.int x2), some (.int x3), some (.int z4_7)] [] (cw A0 g K nn dn q w e v4 f4) 0 0 := by
    intro n
    induction n with
    | zero =>
      intro z4_7 v4 f4 hs4 j0_7
      omega
    | succ n ih6 =>
      intro z4_7 v4 f4 hs4 j0_7
      refine hC.1 1 7 _ _ rfl _ _ _ _ _ ?_
      refine pq_iload4 (pq_iload_n3 (pq_icmp_gt ?_))
      refine And.intro (fun c7 => ?_) (fun c7 => ?_)
      · skip
        refine hC.1 2 39 _ _ rfl _ _ _ _ _ ?_
        refine pq_ret ?_
        exact ⟨rfl, rfl, v4, f4, rfl, hs4, rfl, by exact True.intro⟩
      · skip
        refine pq_aload_n1 (pq_iload4 (pq_iv1_7 ?_))
        refine And.intro (Exists.intro _ (cw_ro_o hI.1 ho1)) (Exists.intro _ (Exists.intro _ (Exists.intro _ (Exists.intro _ (And.intro (c_X7_has hI hs4 ho1 z4_7 ) (And.intro rfl (fun r9 A9 h9 => ?_)))))))
        rcases h9 with ⟨y8, rfl, rfl, ⟨rfl, by8⟩ | ⟨rfl, by8⟩⟩
        · skip
          have k1 : (1 : Int32).toInt = 1 := rfl
          refine pq_id1 (pq_icond_eq ?_)
          refine And.intro (fun c9 => absurd c9 (by decide)) (fun _ => ?_)
          refine pq_aload_n0 (pq_aload_n1 (qgr_0 hI.1 ho1 (pq_iload4 (qlc_r1 hI.1 ho1 (by omega) ?_))))
          have w10 := cw_col hI ho1 (z4_7).toInt.toNat
          refine pq_iv1_2 ?_
          refine And.intro (Exists.intro _ (cw_o2 hI.1)) (Exists.intro _ (Exists.intro _ (Exists.intro _ (Exists.intro _ (And.intro (c_X2_take hI hs4 (e (o1 + 1) (z4_7).toInt.toNat) (by omega)) (And.intro rfl (fun r9 A9 h9 => ?_)))))))
          rcases h9 with ⟨v12, f12, rfl, hs12, rfl, by11⟩
          refine pq_id0 (pq_iinc (fun zm_9 => [some (.ref (q 2)), some (.ref (q o1)), some (.int x2), some (.int x3), some (.int zm_9)]) rfl (fun _ => rfl) ?_)
          intro m13 em_33
          try have e13 : m13.toInt = (z4_7).toInt + (1) := by rw [em_33]; exact pm_addc _ _ (1) rfl (by omega) (by omega)
          refine pq_goto ?_
          exact ih6 m13 v12 f12 hs12 (by omega)
        · skip
          have k0 : (0 : Int32).toInt = 0 := rfl
          refine pq_id1 (pq_icond_eq ?_)
          refine And.intro (fun _ => ?_) (fun c9 => absurd c9 (by decide))
          refine hC.1 2 39 _ _ rfl _ _ _ _ _ ?_
          refine pq_ret ?_
          exact ⟨rfl, rfl, v4, f4, rfl, hs4, rfl, by exact True.intro⟩
  exact lp5 (((200 - x2.toInt).toNat : Int)).toNat.succ x2 v3 f3 hs3 (by omega)

set_option maxRecDepth 100000 in
set_option maxHeartbeats 2000000 in
theorem c_X2_kindsFrom (hI : cw_I K nn dn q w e) (hs : cw_S v f) (x1 : Int32)  : pm_Mt l g 64 0 0 0 [.ref (q 2), .int x1] (cw A0 g K nn dn q w e v f) (md_Qp (cw A0 g K nn dn q w e v f) (fun r => True)) := by
  refine mt_X2_kindsFrom rfl (fun J hC => ?_)
  have ro_nn : cw_ro K nn := hI.2.1.2.1
  have ro_dn : cw_ro K dn := hI.2.1.2.2.1
  have hu1 := hI.2.1
  unfold cw_W at hu1
  have rg_x1 := pm_rng x1
  show J 0 [some (.ref (q 2)), some (.int x1), none, none] [] (cw A0 g K nn dn q w e v f) 0 0
  refine hC.1 0 0 _ _ rfl _ _ _ _ _ ?_
  have k0 : (0 : Int32).toInt = 0 := rfl
  refine pq_iconst (pq_istore_n [some (.ref (q 2)), some (.int x1), some (.int (0 : Int32)), none] rfl (pq_iconst (pq_istore_n [some (.ref (q 2)), some (.int x1), some (.int (0 : Int32)), some (.int (0 : Int32))] rfl (pq_nil ?_))))
  have lp3 : ∀ (n : Nat) (z2_4 : Int32) (z3_4 : Int32), (0 ≤ z3_4.toInt ∧ z3_4.toInt ≤ 24) → 200 - z3_4.toInt < (n : Int) → J 4 [some (.ref (q 2)), some (.int x1), some (.int z2_4), some (.int z3_4)] [] (cw A0 g K nn dn q w e v f) 0 0 := by
    intro n
    induction n with
    | zero =>
      intro z2_4 z3_4 j0_4 j1_4
      omega
    | succ n ih4 =>
      intro z2_4 z3_4 j0_4 j1_4
      refine hC.1 1 4 _ _ rfl _ _ _ _ _ ?_
      refine pq_iload_n3 ?_
      have k24 : (24 : Int32).toInt = 24 := rfl
      refine pq_bipush (pq_icmp_ge ?_)
      refine And.intro (fun c5 => ?_) (fun c5 => ?_)
      · skip
        refine hC.1 3 29 _ _ rfl _ _ _ _ _ ?_
        refine pq_iload_n2 (pq_iret ?_)
        exact ⟨rfl, fun e9 => absurd e9 (by decide), rfl, z2_4, rfl, rfl, by exact True.intro⟩
      · skip
        refine pq_aload_n0 (qgc_2_0 hI.1 (pq_iload_n3 (qlc_14 hI.1 (by omega) (pq_iload_n1 (pq_icmp_lt ?_)))))
        refine And.intro (fun c6 => ?_) (fun c6 => ?_)
        · skip
          refine hC.1 2 23 _ _ rfl _ _ _ _ _ ?_
          have k1 : (1 : Int32).toInt = 1 := rfl
          refine pq_iinc (fun zm_9 => [some (.ref (q 2)), some (.int x1), some (.int z2_4), some (.int zm_9)]) rfl (fun _ => rfl) ?_
          intro m7 em_23
          try have e7 : m7.toInt = (z3_4).toInt + (1) := by rw [em_23]; exact pm_addc _ _ (1) rfl (by omega) (by omega)
          refine pq_goto ?_
          exact ih4 z2_4 m7 (by omega) (by omega)
        · skip
          have k1 : (1 : Int32).toInt = 1 := rfl
          refine pq_iinc (fun zm_9 => [some (.ref (q 2)), some (.int x1), some (.int zm_9), some (.int z3_4)]) rfl (fun _ => rfl) ?_
          intro m8 em_20
          try have e8 : m8.toInt = (z2_4).toInt + (1) := by rw [em_20]; exact pm_addc _ _ (1) rfl (by omega) (by omega)
          refine pq_nil ?_
          refine hC.1 2 23 _ _ rfl _ _ _ _ _ ?_
          refine pq_iinc (fun zm_9 => [some (.ref (q 2)), some (.int x1), some (.int m8), some (.int zm_9)]) rfl (fun _ => rfl) ?_
          intro m9 em_23
          try have e9 : m9.toInt = (z3_4).toInt + (1) := by rw [em_23]; exact pm_addc _ _ (1) rfl (by omega) (by omega)
          refine pq_goto ?_
          exact ih4 m8 m9 (by omega) (by omega)
  exact lp3 (200 - (0 : Int32).toInt).toNat.succ (0 : Int32) (0 : Int32) (by omega) (by omega)

set_option maxRecDepth 100000 in
set_option maxHeartbeats 2000000 in
theorem c_X2_kindsOfJust (hI : cw_I K nn dn q w e) (hs : cw_S v f) (x1 : Int32)  : pm_Mt l g 77 0 0 0 [.ref (q 2), .int x1] (cw A0 g K nn dn q w e v f) (md_Qp (cw A0 g K nn dn q w e v f) (fun r => True)) := by
  refine mt_X2_kindsOfJust rfl (fun J hC => ?_)
  have ro_nn : cw_ro K nn := hI.2.1.2.1
  have ro_dn : cw_ro K dn := hI.2.1.2.2.1
  have hu1 := hI.2.1
  unfold cw_W at hu1
  have rg_x1 := pm_rng x1
  show J 0 [some (.ref (q 2)), some (.int x1), none, none] [] (cw A0 g K nn dn q w e v f) 0 0
  refine hC.1 0 0 _ _ rfl _ _ _ _ _ ?_
  have k0 : (0 : Int32).toInt = 0 := rfl
  refine pq_iconst (pq_istore_n [some (.ref (q 2)), some (.int x1), some (.int (0 : Int32)), none] rfl (pq_iconst (pq_istore_n [some (.ref (q 2)), some (.int x1), some (.int (0 : Int32)), some (.int (0 : Int32))] rfl (pq_nil ?_))))
  have lp3 : ∀ (n : Nat) (z2_4 : Int32) (z3_4 : Int32), (0 ≤ z3_4.toInt ∧ z3_4.toInt ≤ 24) → 200 - z3_4.toInt < (n : Int) → J 4 [some (.ref (q 2)), some (.int x1), some (.int z2_4), some (.int z3_4)] [] (cw A0 g K nn dn q w e v f) 0 0 := by
    intro n
    induction n with
    | zero =>
      intro z2_4 z3_4 j0_4 j1_4
      omega
    | succ n ih4 =>
      intro z2_4 z3_4 j0_4 j1_4
      refine hC.1 1 4 _ _ rfl _ _ _ _ _ ?_
      refine pq_iload_n3 ?_
      have k24 : (24 : Int32).toInt = 24 := rfl
      refine pq_bipush (pq_icmp_ge ?_)
      refine And.intro (fun c5 => ?_) (fun c5 => ?_)
      · skip
        refine hC.1 3 29 _ _ rfl _ _ _ _ _ ?_
        refine pq_iload_n2 (pq_iret ?_)
        exact ⟨rfl, fun e9 => absurd e9 (by decide), rfl, z2_4, rfl, rfl, by exact True.intro⟩
      · skip
        refine pq_aload_n0 (qgc_2_0 hI.1 (pq_iload_n3 (qlc_14 hI.1 (by omega) (pq_iload_n1 (pq_icmp_ne ?_)))))
        refine And.intro (fun c6 => ?_) (fun c6 => ?_)
        · skip
          have dc6 := pm_neI c6
          refine hC.1 2 23 _ _ rfl _ _ _ _ _ ?_
          have k1 : (1 : Int32).toInt = 1 := rfl
          refine pq_iinc (fun zm_9 => [some (.ref (q 2)), some (.int x1), some (.int z2_4), some (.int zm_9)]) rfl (fun _ => rfl) ?_
          intro m7 em_23
          try have e7 : m7.toInt = (z3_4).toInt + (1) := by rw [em_23]; exact pm_addc _ _ (1) rfl (by omega) (by omega)
          refine pq_goto ?_
          exact ih4 z2_4 m7 (by omega) (by omega)
        · skip
          have dc6 : ((f 14 (z3_4).toInt.toNat)).toInt = (x1 : Int32).toInt := congrArg Int32.toInt c6
          have k1 : (1 : Int32).toInt = 1 := rfl
          refine pq_iinc (fun zm_9 => [some (.ref (q 2)), some (.int x1), some (.int zm_9), some (.int z3_4)]) rfl (fun _ => rfl) ?_
          intro m8 em_20
          try have e8 : m8.toInt = (z2_4).toInt + (1) := by rw [em_20]; exact pm_addc _ _ (1) rfl (by omega) (by omega)
          refine pq_nil ?_
          refine hC.1 2 23 _ _ rfl _ _ _ _ _ ?_
          refine pq_iinc (fun zm_9 => [some (.ref (q 2)), some (.int x1), some (.int m8), some (.int zm_9)]) rfl (fun _ => rfl) ?_
          intro m9 em_23
          try have e9 : m9.toInt = (z3_4).toInt + (1) := by rw [em_23]; exact pm_addc _ _ (1) rfl (by omega) (by omega)
          refine pq_goto ?_
          exact ih4 m8 m9 (by omega) (by omega)
  exact lp3 (200 - (0 : Int32).toInt).toNat.succ (0 : Int32) (0 : Int32) (by omega) (by omega)

set_option maxRecDepth 100000 in
set_option maxHeartbeats 2000000 in
theorem c_X2_largerThanPart (hI : cw_I K nn dn q w e) (hs : cw_S v f) (x1 : Int32)  : pm_Mt l g 79 0 0 0 [.ref (q 2), .int x1] (cw A0 g K nn dn q w e v f) (md_Qp (cw A0 g K nn dn q w e v f) (fun r => True)) := by
  refine mt_X2_largerThanPart rfl (fun J hC => ?_)
  have ro_nn : cw_ro K nn := hI.2.1.2.1
  have ro_dn : cw_ro K dn := hI.2.1.2.2.1
  have hu1 := hI.2.1
  unfold cw_W at hu1
  have rg_x1 := pm_rng x1
  show J 0 [some (.ref (q 2)), some (.int x1), none, none] [] (cw A0 g K nn dn q w e v f) 0 0
  refine hC.1 0 0 _ _ rfl _ _ _ _ _ ?_
  have k0 : (0 : Int32).toInt = 0 := rfl
  refine pq_iconst (pq_istore_n [some (.ref (q 2)), some (.int x1), some (.int (0 : Int32)), none] rfl (pq_iconst (pq_istore_n [some (.ref (q 2)), some (.int x1), some (.int (0 : Int32)), some (.int (0 : Int32))] rfl (pq_nil ?_))))
  have lp3 : ∀ (n : Nat) (z2_4 : Int32) (z3_4 : Int32), (0 ≤ z3_4.toInt ∧ z3_4.toInt ≤ 24) → 200 - z3_4.toInt < (n : Int) → J 4 [some (.ref (q 2)), some (.int x1), some (.int z2_4), some (.int z3_4)] [] (cw A0 g K nn dn q w e v f) 0 0 := by
    intro n
    induction n with
    | zero =>
      intro z2_4 z3_4 j0_4 j1_4
      omega
    | succ n ih4 =>
      intro z2_4 z3_4 j0_4 j1_4
      refine hC.1 1 4 _ _ rfl _ _ _ _ _ ?_
      refine pq_iload_n3 ?_
      have k24 : (24 : Int32).toInt = 24 := rfl
      refine pq_bipush (pq_icmp_ge ?_)
      refine And.intro (fun c5 => ?_) (fun c5 => ?_)
      · skip
        refine hC.1 3 41 _ _ rfl _ _ _ _ _ ?_
        refine pq_iload_n2 (pq_iret ?_)
        exact ⟨rfl, fun e9 => absurd e9 (by decide), rfl, z2_4, rfl, rfl, by exact True.intro⟩
      · skip
        refine pq_aload_n0 (qgc_2_0 hI.1 (pq_iload_n3 (qlc_14 hI.1 (by omega) (pq_i2l (pq_iload_n1 (pq_i2l (pq_lmul (pq_aload_n0 (qgc_2_2 hI.1 (pq_i2l (pq_lcmp ?_)))))))))))
        refine pq_icond_le ?_
        refine And.intro (fun c6 => ?_) (fun c6 => ?_)
        · skip
          refine hC.1 2 35 _ _ rfl _ _ _ _ _ ?_
          have k1 : (1 : Int32).toInt = 1 := rfl
          refine pq_iinc (fun zm_9 => [some (.ref (q 2)), some (.int x1), some (.int z2_4), some (.int zm_9)]) rfl (fun _ => rfl) ?_
          intro m7 em_35
          try have e7 : m7.toInt = (z3_4).toInt + (1) := by rw [em_35]; exact pm_addc _ _ (1) rfl (by omega) (by omega)
          refine pq_goto ?_
          exact ih4 z2_4 m7 (by omega) (by omega)
        · skip
          refine pq_iload_n2 ?_
          have k1 : (1 : Int32).toInt = 1 := rfl
          refine pq_iconst (pq_iload_n3 (pq_ishl (pq_ior (pq_istore_n [some (.ref (q 2)), some (.int x1), some (.int (z2_4 ||| ((1 : Int32) <<< (z3_4 &&& 31)))), some (.int z3_4)] rfl (pq_nil ?_)))))
          refine hC.1 2 35 _ _ rfl _ _ _ _ _ ?_
          refine pq_iinc (fun zm_9 => [some (.ref (q 2)), some (.int x1), some (.int (z2_4 ||| ((1 : Int32) <<< (z3_4 &&& 31)))), some (.int zm_9)]) rfl (fun _ => rfl) ?_
          intro m8 em_35
          try have e8 : m8.toInt = (z3_4).toInt + (1) := by rw [em_35]; exact pm_addc _ _ (1) rfl (by omega) (by omega)
          refine pq_goto ?_
          exact ih4 (z2_4 ||| ((1 : Int32) <<< (z3_4 &&& 31))) m8 (by omega) (by omega)
  exact lp3 (200 - (0 : Int32).toInt).toNat.succ (0 : Int32) (0 : Int32) (by omega) (by omega)

set_option maxRecDepth 100000 in
set_option maxHeartbeats 2000000 in
theorem c_X2_twosAlike (hI : cw_I K nn dn q w e) (hs : cw_S v f)   : pm_Mt l g 95 0 0 0 [.ref (q 2)] (cw A0 g K nn dn q w e v f) (md_Qp (cw A0 g K nn dn q w e v f) (fun r => True)) := by
  refine mt_X2_twosAlike rfl (fun J hC => ?_)
  have ro_nn : cw_ro K nn := hI.2.1.2.1
  have ro_dn : cw_ro K dn := hI.2.1.2.2.1
  have hu1 := hI.2.1
  unfold cw_W at hu1
  show J 0 [some (.ref (q 2)), none, none] [] (cw A0 g K nn dn q w e v f) 0 0
  refine hC.1 0 0 _ _ rfl _ _ _ _ _ ?_
  have k0 : (0 : Int32).toInt = 0 := rfl
  refine pq_iconst (pq_istore_n [some (.ref (q 2)), some (.int (0 : Int32)), none] rfl (pq_iconst (pq_istore_n [some (.ref (q 2)), some (.int (0 : Int32)), some (.int (0 : Int32))] rfl (pq_nil ?_))))
  have lp3 : ∀ (n : Nat) (z1_4 : Int32) (z2_4 : Int32), (0 ≤ z2_4.toInt ∧ z2_4.toInt ≤ 24) → 200 - z2_4.toInt < (n : Int) → J 4 [some (.ref (q 2)), some (.int z1_4), some (.int z2_4)] [] (cw A0 g K nn dn q w e v f) 0 0 := by
    intro n
    induction n with
    | zero =>
      intro z1_4 z2_4 j0_4 j1_4
      omega
    | succ n ih4 =>
      intro z1_4 z2_4 j0_4 j1_4
      refine hC.1 1 4 _ _ rfl _ _ _ _ _ ?_
      refine pq_iload_n2 ?_
      have k24 : (24 : Int32).toInt = 24 := rfl
      refine pq_bipush (pq_icmp_ge ?_)
      refine And.intro (fun c5 => ?_) (fun c5 => ?_)
      · skip
        refine hC.1 2 36 _ _ rfl _ _ _ _ _ ?_
        refine pq_iload_n1 (pq_iret ?_)
        exact ⟨rfl, fun e9 => absurd e9 (by decide), rfl, z1_4, rfl, rfl, by exact True.intro⟩
      · skip
        refine pq_iload_n1 (pq_aload_n0 (qgc_2_0 hI.1 (pq_iload_n2 (qlc_14 hI.1 (by omega) (pq_aload_n0 (qgc_2_0 hI.1 (pq_iload_n2 (qlc_14 hI.1 (by omega) ?_))))))))
        have k1 : (1 : Int32).toInt = 1 := rfl
        refine pq_iconst (pq_isub ?_)
        intro m6 em_24
        try have e6 : m6.toInt = ((f 14 (z2_4).toInt.toNat)).toInt - (1) := by rw [em_24]; exact pm_subc _ _ (1) rfl (by omega) (by omega)
        refine pq_imul ?_
        intro m7 em_25
        have k2 : (2 : Int32).toInt = 2 := rfl
        refine pq_iconst (pq_idiv ?_)
        refine And.intro (by decide) ?_
        intro m8 em_27
        refine pq_iadd ?_
        intro m9 em_28
        try have e9 : m9.toInt = (z1_4).toInt + (m8).toInt := by rw [em_28]; exact pm_add _ _ (by omega) (by omega)
        refine pq_istore_n [some (.ref (q 2)), some (.int m9), some (.int z2_4)] rfl (pq_iinc (fun zm_9 => [some (.ref (q 2)), some (.int m9), some (.int zm_9)]) rfl (fun _ => rfl) ?_)
        intro m10 em_30
        try have e10 : m10.toInt = (z2_4).toInt + (1) := by rw [em_30]; exact pm_addc _ _ (1) rfl (by omega) (by omega)
        refine pq_goto ?_
        exact ih4 m9 m10 (by omega) (by omega)
  exact lp3 (200 - (0 : Int32).toInt).toNat.succ (0 : Int32) (0 : Int32) (by omega) (by omega)

set_option maxRecDepth 100000 in
set_option maxHeartbeats 2000000 in
theorem c_X2_largestBeside (hI : cw_I K nn dn q w e) (hs : cw_S v f) (x1 : Int32)  : pm_Mt l g 92 0 0 0 [.ref (q 2), .int x1] (cw A0 g K nn dn q w e v f) (md_Qp (cw A0 g K nn dn q w e v f) (fun r => -1 ≤ r.toInt ∧ r.toInt ≤ 23)) := by
  refine mt_X2_largestBeside rfl (fun J hC => ?_)
  have ro_nn : cw_ro K nn := hI.2.1.2.1
  have ro_dn : cw_ro K dn := hI.2.1.2.2.1
  have hu1 := hI.2.1
  unfold cw_W at hu1
  have rg_x1 := pm_rng x1
  show J 0 [some (.ref (q 2)), some (.int x1), none, none, none] [] (cw A0 g K nn dn q w e v f) 0 0
  refine hC.1 0 0 _ _ rfl _ _ _ _ _ ?_
  have km1 : (-1 : Int32).toInt = -1 := rfl
  refine pq_iconst (pq_istore_n [some (.ref (q 2)), some (.int x1), some (.int (-1 : Int32)), none, none] rfl ?_)
  have k0 : (0 : Int32).toInt = 0 := rfl
  refine pq_iconst (pq_istore_n [some (.ref (q 2)), some (.int x1), some (.int (-1 : Int32)), some (.int (0 : Int32)), none] rfl (pq_nil ?_))
  have lp3 : ∀ (n : Nat) (z2_4 : Int32) (z3_4 : Int32), (0 ≤ z3_4.toInt ∧ z3_4.toInt ≤ 24) → (-1 ≤ z2_4.toInt ∧ z2_4.toInt ≤ 23) → 200 - z3_4.toInt < (n : Int) → J 4 [some (.ref (q 2)), some (.int x1), some (.int z2_4), some (.int z3_4), none] [] (cw A0 g K nn dn q w e v f) 0 0 := by
    intro n
    induction n with
    | zero =>
      intro z2_4 z3_4 j0_4 j1_4 j2_4
      omega
    | succ n ih4 =>
      intro z2_4 z3_4 j0_4 j1_4 j2_4
      refine hC.1 1 4 _ _ rfl _ _ _ _ _ ?_
      refine pq_iload_n3 ?_
      have k24 : (24 : Int32).toInt = 24 := rfl
      refine pq_bipush (pq_icmp_ge ?_)
      refine And.intro (fun c5 => ?_) (fun c5 => ?_)
      · skip
        refine hC.1 6 58 _ _ rfl _ _ _ _ _ ?_
        refine pq_iload_n2 (pq_iret ?_)
        exact ⟨rfl, fun e9 => absurd e9 (by decide), rfl, z2_4, rfl, rfl, by first | omega | (dsimp only; omega) | trivial⟩
      · skip
        refine pq_iload_n1 ?_
        have k1 : (1 : Int32).toInt = 1 := rfl
        refine pq_iconst (pq_iload_n3 (pq_ishl (pq_iand (pq_icond_ne ?_))))
        refine And.intro (fun c6 => ?_) (fun c6 => ?_)
        · skip
          have dc6 := pm_neI c6
          refine hC.1 2 22 _ _ rfl _ _ _ _ _ ?_
          refine pq_iconst (pq_nil ?_)
          refine hC.1 3 23 _ _ rfl _ _ _ _ _ ?_
          refine pq_istore [some (.ref (q 2)), some (.int x1), some (.int z2_4), some (.int z3_4), some (.int (0 : Int32))] rfl (pq_iload4 (pq_icond_eq ?_))
          refine And.intro (fun _ => ?_) (fun c9 => absurd c9 (by decide))
          refine hC.1 5 52 _ _ rfl _ _ _ _ _ ?_
          refine pq_iinc (fun zm_9 => [some (.ref (q 2)), some (.int x1), some (.int z2_4), some (.int zm_9), some (.int (0 : Int32))]) rfl (fun _ => rfl) ?_
          intro m7 em_52
          try have e7 : m7.toInt = (z3_4).toInt + (1) := by rw [em_52]; exact pm_addc _ _ (1) rfl (by omega) (by omega)
          refine pq_goto ?_
          exact hC.2 [false, false, false, false, true] _ _ _ _ _ _ (ih4 z2_4 m7 (by omega) (by omega) (by omega))
        · skip
          have dc6 : ((x1 &&& ((1 : Int32) <<< (z3_4 &&& 31)))).toInt = (0 : Int32).toInt := congrArg Int32.toInt c6
          refine pq_iconst (pq_goto ?_)
          refine hC.1 3 23 _ _ rfl _ _ _ _ _ ?_
          refine pq_istore [some (.ref (q 2)), some (.int x1), some (.int z2_4), some (.int z3_4), some (.int (1 : Int32))] rfl (pq_iload4 (pq_icond_eq ?_))
          refine And.intro (fun c9 => absurd c9 (by decide)) (fun _ => ?_)
          refine pq_iload_n2 (pq_iconst (pq_icmp_eq ?_))
          refine And.intro (fun c8 => ?_) (fun c8 => ?_)
          · skip
            have dc8 : (z2_4).toInt = ((-1 : Int32) : Int32).toInt := congrArg Int32.toInt c8
            refine hC.1 4 50 _ _ rfl _ _ _ _ _ ?_
            refine pq_iload_n3 (pq_istore_n [some (.ref (q 2)), some (.int x1), some (.int z3_4), some (.int z3_4), some (.int (1 : Int32))] rfl (pq_nil ?_))
            refine hC.1 5 52 _ _ rfl _ _ _ _ _ ?_
            refine pq_iinc (fun zm_9 => [some (.ref (q 2)), some (.int x1), some (.int z3_4), some (.int zm_9), some (.int (1 : Int32))]) rfl (fun _ => rfl) ?_
            intro m9 em_52
            try have e9 : m9.toInt = (z3_4).toInt + (1) := by rw [em_52]; exact pm_addc _ _ (1) rfl (by omega) (by omega)
            refine pq_goto ?_
            exact hC.2 [false, false, false, false, true] _ _ _ _ _ _ (ih4 z3_4 m9 (by omega) (by omega) (by omega))
          · skip
            have dc8 := pm_neI c8
            refine pq_aload_n0 (qgc_2_0 hI.1 (pq_iload_n3 (qlc_14 hI.1 (by omega) (pq_aload_n0 (qgc_2_0 hI.1 (pq_iload_n2 (qlc_14 hI.1 (by omega) (pq_icmp_le ?_))))))))
            refine And.intro (fun c10 => ?_) (fun c10 => ?_)
            · skip
              refine hC.1 5 52 _ _ rfl _ _ _ _ _ ?_
              refine pq_iinc (fun zm_9 => [some (.ref (q 2)), some (.int x1), some (.int z2_4), some (.int zm_9), some (.int (1 : Int32))]) rfl (fun _ => rfl) ?_
              intro m11 em_52
              try have e11 : m11.toInt = (z3_4).toInt + (1) := by rw [em_52]; exact pm_addc _ _ (1) rfl (by omega) (by omega)
              refine pq_goto ?_
              exact hC.2 [false, false, false, false, true] _ _ _ _ _ _ (ih4 z2_4 m11 (by omega) (by omega) (by omega))
            · skip
              refine pq_nil ?_
              refine hC.1 4 50 _ _ rfl _ _ _ _ _ ?_
              refine pq_iload_n3 (pq_istore_n [some (.ref (q 2)), some (.int x1), some (.int z3_4), some (.int z3_4), some (.int (1 : Int32))] rfl (pq_nil ?_))
              refine hC.1 5 52 _ _ rfl _ _ _ _ _ ?_
              refine pq_iinc (fun zm_9 => [some (.ref (q 2)), some (.int x1), some (.int z3_4), some (.int zm_9), some (.int (1 : Int32))]) rfl (fun _ => rfl) ?_
              intro m12 em_52
              try have e12 : m12.toInt = (z3_4).toInt + (1) := by rw [em_52]; exact pm_addc _ _ (1) rfl (by omega) (by omega)
              refine pq_goto ?_
              exact hC.2 [false, false, false, false, true] _ _ _ _ _ _ (ih4 z3_4 m12 (by omega) (by omega) (by omega))
  exact lp3 (200 - (0 : Int32).toInt).toNat.succ (-1 : Int32) (0 : Int32) (by omega) (by omega) (by omega)

set_option maxRecDepth 100000 in
set_option maxHeartbeats 2000000 in
theorem c_X2_placesOfLargest (hI : cw_I K nn dn q w e) (hs : cw_S v f) (x1 : Int32)  : pm_Mt l g 91 1 0 0 [.ref (q 2), .int x1] (cw A0 g K nn dn q w e v f) (md_Qp (cw A0 g K nn dn q w e v f) (fun r => True)) := by
  refine mt_X2_placesOfLargest rfl (fun J hC => ?_)
  have ro_nn : cw_ro K nn := hI.2.1.2.1
  have ro_dn : cw_ro K dn := hI.2.1.2.2.1
  have hu1 := hI.2.1
  unfold cw_W at hu1
  have rg_x1 := pm_rng x1
  show J 0 [some (.ref (q 2)), some (.int x1), none, none, none, none] [] (cw A0 g K nn dn q w e v f) 0 0
  refine hC.1 0 0 _ _ rfl _ _ _ _ _ ?_
  have k0 : (0 : Int32).toInt = 0 := rfl
  refine pq_iconst (pq_istore_n [some (.ref (q 2)), some (.int x1), some (.int (0 : Int32)), none, none, none] rfl (pq_iconst (pq_istore_n [some (.ref (q 2)), some (.int x1), some (.int (0 : Int32)), some (.int (0 : Int32)), none, none] rfl (pq_iconst (pq_istore [some (.ref (q 2)), some (.int x1), some (.int (0 : Int32)), some (.int (0 : Int32)), some (.int (0 : Int32)), none] rfl (pq_nil ?_))))))
  have lp3 : ∀ (n : Nat) (z2_7 : Int32) (z3_7 : Int32) (z4_7 : Int32), (0 ≤ z4_7.toInt ∧ z4_7.toInt ≤ 24) → 200 - z4_7.toInt < (n : Int) → J 7 [some (.ref (q 2)), some (.int x1), some (.int z2_7), some (.int z3_7), some (.int z4_7), none] [] (cw A0 g K nn dn q w e v f) 0 0 := by
    intro n
    induction n with
    | zero =>
      intro z2_7 z3_7 z4_7 j0_7 j1_7
      omega
    | succ n ih4 =>
      intro z2_7 z3_7 z4_7 j0_7 j1_7
      refine hC.1 1 7 _ _ rfl _ _ _ _ _ ?_
      refine pq_iload4 (pq_iload_n1 (pq_icmp_ge ?_))
      refine And.intro (fun c5 => ?_) (fun c5 => ?_)
      · skip
        refine hC.1 3 58 _ _ rfl _ _ _ _ _ ?_
        refine pq_iload_n3 (pq_iret ?_)
        exact ⟨rfl, fun e9 => absurd e9 (by decide), rfl, z3_7, rfl, rfl, by exact True.intro⟩
      · skip
        refine pq_iload4 ?_
        have k24 : (24 : Int32).toInt = 24 := rfl
        refine pq_bipush (pq_icmp_ge ?_)
        refine And.intro (fun c6 => ?_) (fun c6 => ?_)
        · skip
          refine hC.1 3 58 _ _ rfl _ _ _ _ _ ?_
          refine pq_iload_n3 (pq_iret ?_)
          exact ⟨rfl, fun e9 => absurd e9 (by decide), rfl, z3_7, rfl, rfl, by exact True.intro⟩
        · skip
          refine pq_aload_n0 (pq_iload_n2 (pq_iv1_2 ?_))
          refine And.intro (Exists.intro _ (cw_o2 hI.1)) (Exists.intro _ (Exists.intro _ (Exists.intro _ (Exists.intro _ (And.intro (c_X2_largestBeside hI hs z2_7 ) (And.intro rfl (fun r9 A9 h9 => ?_)))))))
          obtain ⟨y7, rfl, rfl, by7⟩ := h9
          refine pq_id1 (pq_istore [some (.ref (q 2)), some (.int x1), some (.int z2_7), some (.int z3_7), some (.int z4_7), some (.int y7)] rfl (pq_iload5 ?_))
          have km1 : (-1 : Int32).toInt = -1 := rfl
          refine pq_iconst (pq_icmp_ne ?_)
          refine And.intro (fun c9 => ?_) (fun c9 => ?_)
          · skip
            have dc9 := pm_neI c9
            refine hC.1 2 35 _ _ rfl _ _ _ _ _ ?_
            refine pq_iload_n2 ?_
            have k1 : (1 : Int32).toInt = 1 := rfl
            refine pq_iconst (pq_iload5 (pq_ishl (pq_ior (pq_istore_n [some (.ref (q 2)), some (.int x1), some (.int (z2_7 ||| ((1 : Int32) <<< (y7 &&& 31)))), some (.int z3_7), some (.int z4_7), some (.int y7)] rfl (pq_iload_n3 (pq_aload_n0 (qgc_2_0 hI.1 (pq_iload5 (qlc_14 hI.1 (by omega) (pq_iadd ?_))))))))))
            intro m10 em_50
            try have e10 : m10.toInt = (z3_7).toInt + ((f 14 (y7).toInt.toNat)).toInt := by rw [em_50]; exact pm_add _ _ (by omega) (by omega)
            refine pq_istore_n [some (.ref (q 2)), some (.int x1), some (.int (z2_7 ||| ((1 : Int32) <<< (y7 &&& 31)))), some (.int m10), some (.int z4_7), some (.int y7)] rfl (pq_iinc (fun zm_9 => [some (.ref (q 2)), some (.int x1), some (.int (z2_7 ||| ((1 : Int32) <<< (y7 &&& 31)))), some (.int m10), some (.int zm_9), some (.int y7)]) rfl (fun _ => rfl) ?_)
            intro m11 em_52
            try have e11 : m11.toInt = (z4_7).toInt + (1) := by rw [em_52]; exact pm_addc _ _ (1) rfl (by omega) (by omega)
            refine pq_goto ?_
            exact hC.2 [false, false, false, false, false, true] _ _ _ _ _ _ (ih4 (z2_7 ||| ((1 : Int32) <<< (y7 &&& 31))) m10 m11 (by omega) (by omega))
          · skip
            have dc9 : (y7).toInt = ((-1 : Int32) : Int32).toInt := congrArg Int32.toInt c9
            refine pq_iload_n3 (pq_iret ?_)
            exact ⟨rfl, fun e9 => absurd e9 (by decide), rfl, z3_7, rfl, rfl, by exact True.intro⟩
  exact lp3 (200 - (0 : Int32).toInt).toNat.succ (0 : Int32) (0 : Int32) (0 : Int32) (by omega) (by omega)

end
end
section
section
variable {l : Launch} {g : pm_G} {A0 : pm_H} {K nn dn : Nat} {q : Nat → Nat} {w : Nat → Int32} {e : Nat → Nat → Int32} {v : Nat → Int32} {f : Nat → Nat → Int32}
set_option maxRecDepth 100000 in
set_option maxHeartbeats 2000000 in
theorem c_X0_reported (hI : cw_I K nn dn q w e) (hs : cw_S v f) {o1 : Nat} (ho1 : cw_ro K o1) (x2 : Int32) (x3 : Int32) (x4 : Int32) (p0 : 0 ≤ x2.toInt ∧ x2.toInt ≤ x3.toInt ∧ x3.toInt < (w o1).toInt) : pm_Mt l g 66 1 0 0 [.ref (q 3), .ref (q o1), .int x2, .int x3, .int x4] (cw A0 g K nn dn q w e v f) (cw_Qs A0 g K nn dn q w e (fun r v2 f2 => ∃ x : Int32, r = some (.int x) ∧ (True))) := by
  refine mt_X0_reported rfl (fun J hC => ?_)
  have ro_nn : cw_ro K nn := hI.2.1.2.1
  have ro_dn : cw_ro K dn := hI.2.1.2.2.1
  have hu1 := hI.2.1
  unfold cw_W at hu1
  have rg_x2 := pm_rng x2
  have rg_x3 := pm_rng x3
  have rg_x4 := pm_rng x4
  have zz0 := cw_sz hI ho1
  show J 0 [some (.ref (q 3)), some (.ref (q o1)), some (.int x2), some (.int x3), some (.int x4), none, none, none] [] (cw A0 g K nn dn q w e v f) 0 0
  refine hC.1 0 0 _ _ rfl _ _ _ _ _ ?_
  refine pq_aload_n0 (qgc_3_1 hI.1 ?_)
  have km1 : (-1 : Int32).toInt = -1 := rfl
  refine pq_iconst (pq_is2 ?_)
  refine Exists.intro _ (Exists.intro _ (Exists.intro _ (Exists.intro _ (And.intro (c_fill (cw_a17 hI.1) (by decide) (-1 : Int32)) (And.intro rfl (fun r9 A9 h9 => ?_))))))
  obtain ⟨rfl, rfl⟩ := h9
  rw [cw_s17 hI.1]
  obtain ⟨f2, ef2⟩ : ∃ z9, z9 = va_up f 17 (fun j => if j < 160 then (-1 : Int32) else f 17 j) := ⟨_, rfl⟩
  rw [← ef2]
  have hs2 : cw_S v f2 := by rw [ef2]; exact cw_S_fr hs _ _ (by decide) (by decide)
  refine pq_id0 ?_
  have k0 : (0 : Int32).toInt = 0 := rfl
  refine pq_iconst (pq_istore [some (.ref (q 3)), some (.ref (q o1)), some (.int x2), some (.int x3), some (.int x4), some (.int (0 : Int32)), none, none] rfl (pq_iload_n2 (pq_istore [some (.ref (q 3)), some (.ref (q o1)), some (.int x2), some (.int x3), some (.int x4), some (.int (0 : Int32)), some (.int x2), none] rfl (pq_nil ?_))))
  have lp4 : ∀ (n : Nat) (z5_14 : Int32) (z6_14 : Int32) (v3 : Nat → Int32) (f3 : Nat → Nat → Int32), cw_S v3 f3 → (x2.toInt ≤ z6_14.toInt ∧ z6_14.toInt ≤ x3.toInt + 1) → 200 - z6_14.toInt < (n : Int) → J 14 [some (.ref (q 3)), some (.ref (q o1)), some (.int x2), some (.int x3), some (.int x4), some (.int z5_14), some (.int z6_14), none] [] (cw A0 g K nn dn q w e v3 f3) 0 0 := by
    intro n
    induction n with
    | zero =>
      intro z5_14 z6_14 v3 f3 hs3 j0_14 j1_14
      omega
    | succ n ih5 =>
      intro z5_14 z6_14 v3 f3 hs3 j0_14 j1_14
      refine hC.1 1 14 _ _ rfl _ _ _ _ _ ?_
      refine pq_iload6 (pq_iload_n3 (pq_icmp_gt ?_))
      refine And.intro (fun c6 => ?_) (fun c6 => ?_)
      · skip
        refine hC.1 5 72 _ _ rfl _ _ _ _ _ ?_
        refine pq_iconst (pq_istore [some (.ref (q 3)), some (.ref (q o1)), some (.int x2), some (.int x3), some (.int x4), some (.int z5_14), some (.int (0 : Int32)), none] rfl (pq_nil ?_))
        have lp8 : ∀ (n : Nat) (z5_75 : Int32) (z6_75 : Int32), (0 ≤ z6_75.toInt ∧ z6_75.toInt ≤ x2.toInt) → 200 - z6_75.toInt < (n : Int) → J 75 [some (.ref (q 3)), some (.ref (q o1)), some (.int x2), some (.int x3), some (.int x4), some (.int z5_75), some (.int z6_75), none] [] (cw A0 g K nn dn q w e v3 f3) 0 0 := by
          intro n
          induction n with
          | zero =>
            intro z5_75 z6_75 j0_75 j1_75
            omega
          | succ n ih9 =>
            intro z5_75 z6_75 j0_75 j1_75
            refine hC.1 6 75 _ _ rfl _ _ _ _ _ ?_
            refine pq_iload6 (pq_iload_n2 (pq_icmp_ge ?_))
            refine And.intro (fun c10 => ?_) (fun c10 => ?_)
            · skip
              refine hC.1 9 116 _ _ rfl _ _ _ _ _ ?_
              refine pq_iconst (pq_iret ?_)
              exact ⟨rfl, fun e9 => absurd e9 (by decide), rfl, v3, f3, rfl, hs3, (-1 : Int32), rfl, by exact True.intro⟩
            · skip
              refine pq_aload_n0 (qgc_3_1 hI.1 (pq_iload6 (qlc_17 hI.1 (by omega) (pq_iconst (pq_icmp_eq ?_)))))
              refine And.intro (fun c11 => ?_) (fun c11 => ?_)
              · skip
                have dc11 : ((f3 17 (z6_75).toInt.toNat)).toInt = ((-1 : Int32) : Int32).toInt := congrArg Int32.toInt c11
                refine hC.1 8 110 _ _ rfl _ _ _ _ _ ?_
                have k1 : (1 : Int32).toInt = 1 := rfl
                refine pq_iinc (fun zm_9 => [some (.ref (q 3)), some (.ref (q o1)), some (.int x2), some (.int x3), some (.int x4), some (.int z5_75), some (.int zm_9), none]) rfl (fun _ => rfl) ?_
                intro m12 em_110
                try have e12 : m12.toInt = (z6_75).toInt + (1) := by rw [em_110]; exact pm_addc _ _ (1) rfl (by omega) (by omega)
                refine pq_goto ?_
                exact ih9 z5_75 m12 (by omega) (by omega)
              · skip
                have dc11 := pm_neI c11
                refine pq_iload5 (pq_iload4 (pq_icmp_ne ?_))
                refine And.intro (fun c13 => ?_) (fun c13 => ?_)
                · skip
                  have dc13 := pm_neI c13
                  refine hC.1 7 107 _ _ rfl _ _ _ _ _ ?_
                  have k1 : (1 : Int32).toInt = 1 := rfl
                  refine pq_iinc (fun zm_9 => [some (.ref (q 3)), some (.ref (q o1)), some (.int x2), some (.int x3), some (.int x4), some (.int zm_9), some (.int z6_75), none]) rfl (fun _ => rfl) ?_
                  intro m14 em_107
                  try have e14 : m14.toInt = (z5_75).toInt + (1) := by rw [em_107]; exact pm_addc _ _ (1) rfl (by omega) (by omega)
                  refine pq_nil ?_
                  refine hC.1 8 110 _ _ rfl _ _ _ _ _ ?_
                  refine pq_iinc (fun zm_9 => [some (.ref (q 3)), some (.ref (q o1)), some (.int x2), some (.int x3), some (.int x4), some (.int m14), some (.int zm_9), none]) rfl (fun _ => rfl) ?_
                  intro m15 em_110
                  try have e15 : m15.toInt = (z6_75).toInt + (1) := by rw [em_110]; exact pm_addc _ _ (1) rfl (by omega) (by omega)
                  refine pq_goto ?_
                  exact ih9 m14 m15 (by omega) (by omega)
                · skip
                  have dc13 : (z5_75).toInt = (x4 : Int32).toInt := congrArg Int32.toInt c13
                  refine pq_aload_n0 (qgc_3_1 hI.1 (pq_iload6 (qlc_17 hI.1 (by omega) (pq_iret ?_))))
                  exact ⟨rfl, fun e9 => absurd e9 (by decide), rfl, v3, f3, rfl, hs3, (f3 17 (z6_75).toInt.toNat), rfl, by exact True.intro⟩
        exact lp8 (200 - (0 : Int32).toInt).toNat.succ z5_14 (0 : Int32) (by omega) (by omega)
      · skip
        refine pq_aload_n1 (qgr_2 hI.1 ho1 (pq_iload6 (qlc_r3 hI.1 ho1 (by omega) ?_)))
        have w16 := cw_ahd hI ho1 (z6_14).toInt.toNat
        refine pq_istore [some (.ref (q 3)), some (.ref (q o1)), some (.int x2), some (.int x3), some (.int x4), some (.int z5_14), some (.int z6_14), some (.int (e (o1 + 3) (z6_14).toInt.toNat))] rfl (pq_iload7 (pq_iconst (pq_icmp_ne ?_)))
        refine And.intro (fun c17 => ?_) (fun c17 => ?_)
        · skip
          have dc17 := pm_neI c17
          refine hC.1 3 51 _ _ rfl _ _ _ _ _ ?_
          refine pq_iload7 (pq_iload_n2 (pq_icmp_ge ?_))
          refine And.intro (fun c18 => ?_) (fun c18 => ?_)
          · skip
            refine hC.1 4 66 _ _ rfl _ _ _ _ _ ?_
            have k1 : (1 : Int32).toInt = 1 := rfl
            refine pq_iinc (fun zm_9 => [some (.ref (q 3)), some (.ref (q o1)), some (.int x2), some (.int x3), some (.int x4), some (.int z5_14), some (.int zm_9), some (.int (e (o1 + 3) (z6_14).toInt.toNat))]) rfl (fun _ => rfl) ?_
            intro m19 em_66
            try have e19 : m19.toInt = (z6_14).toInt + (1) := by rw [em_66]; exact pm_addc _ _ (1) rfl (by omega) (by omega)
            refine pq_goto ?_
            exact hC.2 [false, false, false, false, false, false, false, true] _ _ _ _ _ _ (ih5 z5_14 m19 v3 f3 hs3 (by omega) (by omega))
          · skip
            refine pq_aload_n0 (qgc_3_1 hI.1 (pq_iload7 (pq_iload6 ?_)))
            refine qsc_17 hI.1 (by omega) (fun f20 ef20 => ?_)
            have hs20 : cw_S v3 f20 := by rw [ef20]; exact cw_S_fr hs3 _ _ (by decide) (by decide)
            refine pq_nil ?_
            refine hC.1 4 66 _ _ rfl _ _ _ _ _ ?_
            have k1 : (1 : Int32).toInt = 1 := rfl
            refine pq_iinc (fun zm_9 => [some (.ref (q 3)), some (.ref (q o1)), some (.int x2), some (.int x3), some (.int x4), some (.int z5_14), some (.int zm_9), some (.int (e (o1 + 3) (z6_14).toInt.toNat))]) rfl (fun _ => rfl) ?_
            intro m21 em_66
            try have e21 : m21.toInt = (z6_14).toInt + (1) := by rw [em_66]; exact pm_addc _ _ (1) rfl (by omega) (by omega)
            refine pq_goto ?_
            exact hC.2 [false, false, false, false, false, false, false, true] _ _ _ _ _ _ (ih5 z5_14 m21 v3 f20 hs20 (by omega) (by omega))
        · skip
          have dc17 : ((e (o1 + 3) (z6_14).toInt.toNat)).toInt = ((-1 : Int32) : Int32).toInt := congrArg Int32.toInt c17
          refine pq_iload5 (pq_iload4 (pq_icmp_ne ?_))
          refine And.intro (fun c22 => ?_) (fun c22 => ?_)
          · skip
            have dc22 := pm_neI c22
            refine hC.1 2 45 _ _ rfl _ _ _ _ _ ?_
            have k1 : (1 : Int32).toInt = 1 := rfl
            refine pq_iinc (fun zm_9 => [some (.ref (q 3)), some (.ref (q o1)), some (.int x2), some (.int x3), some (.int x4), some (.int zm_9), some (.int z6_14), some (.int (e (o1 + 3) (z6_14).toInt.toNat))]) rfl (fun _ => rfl) ?_
            intro m23 em_45
            try have e23 : m23.toInt = (z5_14).toInt + (1) := by rw [em_45]; exact pm_addc _ _ (1) rfl (by omega) (by omega)
            refine pq_goto ?_
            refine hC.1 4 66 _ _ rfl _ _ _ _ _ ?_
            refine pq_iinc (fun zm_9 => [some (.ref (q 3)), some (.ref (q o1)), some (.int x2), some (.int x3), some (.int x4), some (.int m23), some (.int zm_9), some (.int (e (o1 + 3) (z6_14).toInt.toNat))]) rfl (fun _ => rfl) ?_
            intro m24 em_66
            try have e24 : m24.toInt = (z6_14).toInt + (1) := by rw [em_66]; exact pm_addc _ _ (1) rfl (by omega) (by omega)
            refine pq_goto ?_
            exact hC.2 [false, false, false, false, false, false, false, true] _ _ _ _ _ _ (ih5 m23 m24 v3 f3 hs3 (by omega) (by omega))
          · skip
            have dc22 : (z5_14).toInt = (x4 : Int32).toInt := congrArg Int32.toInt c22
            refine pq_iload6 (pq_iret ?_)
            exact ⟨rfl, fun e9 => absurd e9 (by decide), rfl, v3, f3, rfl, hs3, z6_14, rfl, by exact True.intro⟩
  exact lp4 (200 - x2.toInt).toNat.succ (0 : Int32) x2 v f2 hs2 (by omega) (by omega)

set_option maxRecDepth 100000 in
set_option maxHeartbeats 2000000 in
theorem c_X0_colourOf (hI : cw_I K nn dn q w e) (hs : cw_S v f) (x1 : Int32) (x2 : Int32)  : pm_Mt l g 71 0 0 0 [.ref (q 3), .int x1, .int x2] (cw A0 g K nn dn q w e v f) (md_Qp (cw A0 g K nn dn q w e v f) (fun r => True)) := by
  refine mt_X0_colourOf rfl (fun J hC => ?_)
  have ro_nn : cw_ro K nn := hI.2.1.2.1
  have ro_dn : cw_ro K dn := hI.2.1.2.2.1
  have hu1 := hI.2.1
  unfold cw_W at hu1
  have rg_x1 := pm_rng x1
  have rg_x2 := pm_rng x2
  show J 0 [some (.ref (q 3)), some (.int x1), some (.int x2), none, none] [] (cw A0 g K nn dn q w e v f) 0 0
  refine hC.1 0 0 _ _ rfl _ _ _ _ _ ?_
  have k0 : (0 : Int32).toInt = 0 := rfl
  refine pq_iconst (pq_istore_n [some (.ref (q 3)), some (.int x1), some (.int x2), some (.int (0 : Int32)), none] rfl (pq_iconst (pq_istore [some (.ref (q 3)), some (.int x1), some (.int x2), some (.int (0 : Int32)), some (.int (0 : Int32))] rfl (pq_nil ?_))))
  have lp3 : ∀ (n : Nat) (z3_5 : Int32) (z4_5 : Int32), (0 ≤ z4_5.toInt ∧ z4_5.toInt ≤ 24) → 200 - z4_5.toInt < (n : Int) → J 5 [some (.ref (q 3)), some (.int x1), some (.int x2), some (.int z3_5), some (.int z4_5)] [] (cw A0 g K nn dn q w e v f) 0 0 := by
    intro n
    induction n with
    | zero =>
      intro z3_5 z4_5 j0_5 j1_5
      omega
    | succ n ih4 =>
      intro z3_5 z4_5 j0_5 j1_5
      refine hC.1 1 5 _ _ rfl _ _ _ _ _ ?_
      refine pq_iload4 ?_
      have k24 : (24 : Int32).toInt = 24 := rfl
      refine pq_bipush (pq_icmp_ge ?_)
      refine And.intro (fun c5 => ?_) (fun c5 => ?_)
      · skip
        refine hC.1 4 38 _ _ rfl _ _ _ _ _ ?_
        have km1 : (-1 : Int32).toInt = -1 := rfl
        refine pq_iconst (pq_iret ?_)
        exact ⟨rfl, fun e9 => absurd e9 (by decide), rfl, (-1 : Int32), rfl, rfl, by exact True.intro⟩
      · skip
        refine pq_iload_n1 ?_
        have k1 : (1 : Int32).toInt = 1 := rfl
        refine pq_iconst (pq_iload4 (pq_ishl (pq_iand (pq_icond_eq ?_))))
        refine And.intro (fun c6 => ?_) (fun c6 => ?_)
        · skip
          have dc6 : ((x1 &&& ((1 : Int32) <<< (z4_5 &&& 31)))).toInt = (0 : Int32).toInt := congrArg Int32.toInt c6
          refine hC.1 3 32 _ _ rfl _ _ _ _ _ ?_
          refine pq_iinc (fun zm_9 => [some (.ref (q 3)), some (.int x1), some (.int x2), some (.int z3_5), some (.int zm_9)]) rfl (fun _ => rfl) ?_
          intro m7 em_32
          try have e7 : m7.toInt = (z4_5).toInt + (1) := by rw [em_32]; exact pm_addc _ _ (1) rfl (by omega) (by omega)
          refine pq_goto ?_
          exact ih4 z3_5 m7 (by omega) (by omega)
        · skip
          have dc6 := pm_neI c6
          refine pq_iload_n3 (pq_iload_n2 (pq_icmp_ne ?_))
          refine And.intro (fun c8 => ?_) (fun c8 => ?_)
          · skip
            have dc8 := pm_neI c8
            refine hC.1 2 29 _ _ rfl _ _ _ _ _ ?_
            refine pq_iinc (fun zm_9 => [some (.ref (q 3)), some (.int x1), some (.int x2), some (.int zm_9), some (.int z4_5)]) rfl (fun _ => rfl) ?_
            intro m9 em_29
            try have e9 : m9.toInt = (z3_5).toInt + (1) := by rw [em_29]; exact pm_addc _ _ (1) rfl (by omega) (by omega)
            refine pq_nil ?_
            refine hC.1 3 32 _ _ rfl _ _ _ _ _ ?_
            refine pq_iinc (fun zm_9 => [some (.ref (q 3)), some (.int x1), some (.int x2), some (.int m9), some (.int zm_9)]) rfl (fun _ => rfl) ?_
            intro m10 em_32
            try have e10 : m10.toInt = (z4_5).toInt + (1) := by rw [em_32]; exact pm_addc _ _ (1) rfl (by omega) (by omega)
            refine pq_goto ?_
            exact ih4 m9 m10 (by omega) (by omega)
          · skip
            have dc8 : (z3_5).toInt = (x2 : Int32).toInt := congrArg Int32.toInt c8
            refine pq_iload4 (pq_iret ?_)
            exact ⟨rfl, fun e9 => absurd e9 (by decide), rfl, z4_5, rfl, rfl, by exact True.intro⟩
  exact lp3 (200 - (0 : Int32).toInt).toNat.succ (0 : Int32) (0 : Int32) (by omega) (by omega)

set_option maxRecDepth 100000 in
set_option maxHeartbeats 2000000 in
theorem c_X0_listAsMet__c1 (hI : cw_I K nn dn q w e) (hs : cw_S v f) {o1 : Nat} (ho1 : cw_ro K o1) (x2 : Int32) (x3 : Int32) (p0 : 0 ≤ x2.toInt ∧ x2.toInt ≤ x3.toInt ∧ x3.toInt < 160) : pm_Mt l g 69 1 0 0 [.ref (q 3), .ref (q o1), .int x2, .int x3, .int (1)] (cw A0 g K nn dn q w e v f) (cw_Qs A0 g K nn dn q w e (fun r v2 f2 => r = none ∧ (True))) := by
  refine mt_X0_listAsMet rfl (fun J hC => ?_)
  have ro_nn : cw_ro K nn := hI.2.1.2.1
  have ro_dn : cw_ro K dn := hI.2.1.2.2.1
  have hu1 := hI.2.1
  unfold cw_W at hu1
  have rg_x2 := pm_rng x2
  have rg_x3 := pm_rng x3
  have k1 : (1 : Int32).toInt = 1 := rfl
  have zz0 := cw_sz hI ho1
  show J 0 [some (.ref (q 3)), some (.ref (q o1)), some (.int x2), some (.int x3), some (.int (1 : Int32)), none, none, none, none] [] (cw A0 g K nn dn q w e v f) 0 0
  refine hC.1 0 0 _ _ rfl _ _ _ _ _ ?_
  have k0 : (0 : Int32).toInt = 0 := rfl
  refine pq_iconst (pq_istore [some (.ref (q 3)), some (.ref (q o1)), some (.int x2), some (.int x3), some (.int (1 : Int32)), some (.int (0 : Int32)), none, none, none] rfl (pq_iload_n3 (pq_iload_n2 (pq_isub ?_))))
  intro m2 em_5
  try have e2 : m2.toInt = (x3).toInt - (x2).toInt := by rw [em_5]; exact pm_sub _ _ (by omega) (by omega)
  refine pq_is1 ?_
  refine Exists.intro _ (Exists.intro _ (Exists.intro _ (Exists.intro _ (And.intro (c_J9_abs_0f7a4 (cw A0 g K nn dn q w e v f) m2 ) (And.intro rfl (fun r9 A9 h9 => ?_))))))
  obtain ⟨y3, rfl, rfl, by3⟩ := h9
  refine pq_id1 (pq_istore [some (.ref (q 3)), some (.ref (q o1)), some (.int x2), some (.int x3), some (.int (1 : Int32)), some (.int (0 : Int32)), some (.int y3), none, none] rfl (pq_aload_n0 (pq_iconst ?_)))
  refine quc_3_2 hI.1 (fun v5 ev5 => ?_)
  have hs5 : cw_S v5 f := by rw [ev5]; exact cw_S_v0 hs _ (by omega)
  have ev5_0 : (v5 0).toInt = ((0 : Int32)).toInt := by rw [ev5]; rfl
  refine pq_iconst (pq_istore [some (.ref (q 3)), some (.ref (q o1)), some (.int x2), some (.int x3), some (.int (1 : Int32)), some (.int (0 : Int32)), some (.int y3), some (.int (0 : Int32)), none] rfl (pq_nil ?_))
  have lp7 : ∀ (n : Nat) (z5_19 : Int32) (z7_19 : Int32) (v6 : Nat → Int32) (f6 : Nat → Nat → Int32), cw_S v6 f6 → (0 ≤ z7_19.toInt ∧ z7_19.toInt ≤ 160) → 200 - z7_19.toInt < (n : Int) → J 19 [some (.ref (q 3)), some (.ref (q o1)), some (.int x2), some (.int x3), some (.int (1 : Int32)), some (.int z5_19), some (.int y3), some (.int z7_19), none] [] (cw A0 g K nn dn q w e v6 f6) 0 0 := by
    intro n
    induction n with
    | zero =>
      intro z5_19 z7_19 v6 f6 hs6 j0_19 j1_19
      omega
    | succ n ih8 =>
      intro z5_19 z7_19 v6 f6 hs6 j0_19 j1_19
      refine hC.1 1 19 _ _ rfl _ _ _ _ _ ?_
      refine pq_iload7 (pq_iload6 (pq_icmp_gt ?_))
      refine And.intro (fun c9 => ?_) (fun c9 => ?_)
      · skip
        refine hC.1 3 95 _ _ rfl _ _ _ _ _ ?_
        refine pq_ret ?_
        exact ⟨rfl, rfl, v6, f6, rfl, hs6, rfl, by exact True.intro⟩
      · skip
        refine pq_aload_n1 (qgr_0 hI.1 ho1 (pq_iload_n2 (pq_iload7 (pq_iload4 (pq_imul ?_)))))
        intro m10 em_35
        try have e10 : m10.toInt = (z7_19).toInt * (1) := by rw [em_35]; exact pm_mulc _ _ (1) rfl (by omega) (by omega)
        refine pq_iadd ?_
        intro m11 em_36
        try have e11 : m11.toInt = (x2).toInt + (m10).toInt := by rw [em_36]; exact pm_add _ _ (by omega) (by omega)
        refine qlc_r1 hI.1 ho1 (by omega) ?_
        have w12 := cw_col hI ho1 (m11).toInt.toNat
        refine pq_istore [some (.ref (q 3)), some (.ref (q o1)), some (.int x2), some (.int x3), some (.int (1 : Int32)), some (.int z5_19), some (.int y3), some (.int z7_19), some (.int (e (o1 + 1) (m11).toInt.toNat))] rfl (pq_iload5 (pq_iconst (pq_iload8 (pq_ishl (pq_iand (pq_icond_ne ?_))))))
        refine And.intro (fun c13 => ?_) (fun c13 => ?_)
        · skip
          have dc13 := pm_neI c13
          refine hC.1 2 89 _ _ rfl _ _ _ _ _ ?_
          refine pq_iinc (fun zm_9 => [some (.ref (q 3)), some (.ref (q o1)), some (.int x2), some (.int x3), some (.int (1 : Int32)), some (.int z5_19), some (.int y3), some (.int zm_9), some (.int (e (o1 + 1) (m11).toInt.toNat))]) rfl (fun _ => rfl) ?_
          intro m14 em_89
          try have e14 : m14.toInt = (z7_19).toInt + (1) := by rw [em_89]; exact pm_addc _ _ (1) rfl (by omega) (by omega)
          refine pq_goto ?_
          exact hC.2 [false, false, false, false, false, false, false, false, true] _ _ _ _ _ _ (ih8 z5_19 m14 v6 f6 hs6 (by omega) (by omega))
        · skip
          have dc13 : ((z5_19 &&& ((1 : Int32) <<< ((e (o1 + 1) (m11).toInt.toNat) &&& 31)))).toInt = (0 : Int32).toInt := congrArg Int32.toInt c13
          refine pq_aload_n0 (qgc_3_2 hI.1 ?_)
          have z15 := hs6.1
          have k24 : (24 : Int32).toInt = 24 := rfl
          refine pq_bipush (pq_icmp_ge ?_)
          refine And.intro (fun c16 => ?_) (fun c16 => ?_)
          · skip
            refine hC.1 2 89 _ _ rfl _ _ _ _ _ ?_
            refine pq_iinc (fun zm_9 => [some (.ref (q 3)), some (.ref (q o1)), some (.int x2), some (.int x3), some (.int (1 : Int32)), some (.int z5_19), some (.int y3), some (.int zm_9), some (.int (e (o1 + 1) (m11).toInt.toNat))]) rfl (fun _ => rfl) ?_
            intro m17 em_89
            try have e17 : m17.toInt = (z7_19).toInt + (1) := by rw [em_89]; exact pm_addc _ _ (1) rfl (by omega) (by omega)
            refine pq_goto ?_
            exact hC.2 [false, false, false, false, false, false, false, false, true] _ _ _ _ _ _ (ih8 z5_19 m17 v6 f6 hs6 (by omega) (by omega))
          · skip
            refine pq_iload5 (pq_iconst (pq_iload8 (pq_ishl (pq_ior (pq_istore [some (.ref (q 3)), some (.ref (q o1)), some (.int x2), some (.int x3), some (.int (1 : Int32)), some (.int (z5_19 ||| ((1 : Int32) <<< ((e (o1 + 1) (m11).toInt.toNat) &&& 31)))), some (.int y3), some (.int z7_19), some (.int (e (o1 + 1) (m11).toInt.toNat))] rfl (pq_aload_n0 (qgc_3_0 hI.1 (pq_aload_n0 (qgc_3_2 hI.1 ?_)))))))))
            have z18 := hs6.1
            refine pq_iload8 ?_
            refine qsc_16 hI.1 (by omega) (fun f19 ef19 => ?_)
            have hs19 : cw_S v6 f19 := by rw [ef19]; exact cw_S_f16 hs6 _ _ (by omega)
            refine pq_aload_n0 (pq_dupr (qgc_3_2 hI.1 ?_))
            have z20 := hs19.1
            refine pq_iconst (pq_iadd ?_)
            intro m21 em_85
            try have e21 : m21.toInt = ((v6 0)).toInt + (1) := by rw [em_85]; exact pm_addc _ _ (1) rfl (by omega) (by omega)
            refine quc_3_2 hI.1 (fun v22 ev22 => ?_)
            have hs22 : cw_S v22 f19 := by rw [ev22]; exact cw_S_v0 hs19 _ (by omega)
            have ev22_0 : (v22 0).toInt = (m21).toInt := by rw [ev22]; rfl
            refine pq_nil ?_
            refine hC.1 2 89 _ _ rfl _ _ _ _ _ ?_
            refine pq_iinc (fun zm_9 => [some (.ref (q 3)), some (.ref (q o1)), some (.int x2), some (.int x3), some (.int (1 : Int32)), some (.int (z5_19 ||| ((1 : Int32) <<< ((e (o1 + 1) (m11).toInt.toNat) &&& 31)))), some (.int y3), some (.int zm_9), some (.int (e (o1 + 1) (m11).toInt.toNat))]) rfl (fun _ => rfl) ?_
            intro m23 em_89
            try have e23 : m23.toInt = (z7_19).toInt + (1) := by rw [em_89]; exact pm_addc _ _ (1) rfl (by omega) (by omega)
            refine pq_goto ?_
            exact hC.2 [false, false, false, false, false, false, false, false, true] _ _ _ _ _ _ (ih8 (z5_19 ||| ((1 : Int32) <<< ((e (o1 + 1) (m11).toInt.toNat) &&& 31))) m23 v22 f19 hs22 (by omega) (by omega))
  exact lp7 (200 - (0 : Int32).toInt).toNat.succ (0 : Int32) (0 : Int32) v5 f hs5 (by omega) (by omega)

set_option maxRecDepth 100000 in
set_option maxHeartbeats 2000000 in
theorem c_X0_listAsMet__cm1 (hI : cw_I K nn dn q w e) (hs : cw_S v f) {o1 : Nat} (ho1 : cw_ro K o1) (x2 : Int32) (x3 : Int32) (p0 : 0 ≤ x3.toInt ∧ x3.toInt ≤ x2.toInt ∧ x2.toInt < 160) : pm_Mt l g 69 1 0 0 [.ref (q 3), .ref (q o1), .int x2, .int x3, .int (-1)] (cw A0 g K nn dn q w e v f) (cw_Qs A0 g K nn dn q w e (fun r v2 f2 => r = none ∧ (True))) := by
  refine mt_X0_listAsMet rfl (fun J hC => ?_)
  have ro_nn : cw_ro K nn := hI.2.1.2.1
  have ro_dn : cw_ro K dn := hI.2.1.2.2.1
  have hu1 := hI.2.1
  unfold cw_W at hu1
  have rg_x2 := pm_rng x2
  have rg_x3 := pm_rng x3
  have km1 : (-1 : Int32).toInt = -1 := rfl
  have zz0 := cw_sz hI ho1
  show J 0 [some (.ref (q 3)), some (.ref (q o1)), some (.int x2), some (.int x3), some (.int (-1 : Int32)), none, none, none, none] [] (cw A0 g K nn dn q w e v f) 0 0
  refine hC.1 0 0 _ _ rfl _ _ _ _ _ ?_
  have k0 : (0 : Int32).toInt = 0 := rfl
  refine pq_iconst (pq_istore [some (.ref (q 3)), some (.ref (q o1)), some (.int x2), some (.int x3), some (.int (-1 : Int32)), some (.int (0 : Int32)), none, none, none] rfl (pq_iload_n3 (pq_iload_n2 (pq_isub ?_))))
  intro m2 em_5
  try have e2 : m2.toInt = (x3).toInt - (x2).toInt := by rw [em_5]; exact pm_sub _ _ (by omega) (by omega)
  refine pq_is1 ?_
  refine Exists.intro _ (Exists.intro _ (Exists.intro _ (Exists.intro _ (And.intro (c_J9_abs_0f7a4 (cw A0 g K nn dn q w e v f) m2 ) (And.intro rfl (fun r9 A9 h9 => ?_))))))
  obtain ⟨y3, rfl, rfl, by3⟩ := h9
  refine pq_id1 (pq_istore [some (.ref (q 3)), some (.ref (q o1)), some (.int x2), some (.int x3), some (.int (-1 : Int32)), some (.int (0 : Int32)), some (.int y3), none, none] rfl (pq_aload_n0 (pq_iconst ?_)))
  refine quc_3_2 hI.1 (fun v5 ev5 => ?_)
  have hs5 : cw_S v5 f := by rw [ev5]; exact cw_S_v0 hs _ (by omega)
  have ev5_0 : (v5 0).toInt = ((0 : Int32)).toInt := by rw [ev5]; rfl
  refine pq_iconst (pq_istore [some (.ref (q 3)), some (.ref (q o1)), some (.int x2), some (.int x3), some (.int (-1 : Int32)), some (.int (0 : Int32)), some (.int y3), some (.int (0 : Int32)), none] rfl (pq_nil ?_))
  have lp7 : ∀ (n : Nat) (z5_19 : Int32) (z7_19 : Int32) (v6 : Nat → Int32) (f6 : Nat → Nat → Int32), cw_S v6 f6 → (0 ≤ z7_19.toInt ∧ z7_19.toInt ≤ 160) → 200 - z7_19.toInt < (n : Int) → J 19 [some (.ref (q 3)), some (.ref (q o1)), some (.int x2), some (.int x3), some (.int (-1 : Int32)), some (.int z5_19), some (.int y3), some (.int z7_19), none] [] (cw A0 g K nn dn q w e v6 f6) 0 0 := by
    intro n
    induction n with
    | zero =>
      intro z5_19 z7_19 v6 f6 hs6 j0_19 j1_19
      omega
    | succ n ih8 =>
      intro z5_19 z7_19 v6 f6 hs6 j0_19 j1_19
      refine hC.1 1 19 _ _ rfl _ _ _ _ _ ?_
      refine pq_iload7 (pq_iload6 (pq_icmp_gt ?_))
      refine And.intro (fun c9 => ?_) (fun c9 => ?_)
      · skip
        refine hC.1 3 95 _ _ rfl _ _ _ _ _ ?_
        refine pq_ret ?_
        exact ⟨rfl, rfl, v6, f6, rfl, hs6, rfl, by exact True.intro⟩
      · skip
        refine pq_aload_n1 (qgr_0 hI.1 ho1 (pq_iload_n2 (pq_iload7 (pq_iload4 (pq_imul ?_)))))
        intro m10 em_35
        try have e10 : m10.toInt = (z7_19).toInt * (-1) := by rw [em_35]; exact pm_mulc _ _ (-1) rfl (by omega) (by omega)
        refine pq_iadd ?_
        intro m11 em_36
        try have e11 : m11.toInt = (x2).toInt + (m10).toInt := by rw [em_36]; exact pm_add _ _ (by omega) (by omega)
        refine qlc_r1 hI.1 ho1 (by omega) ?_
        have w12 := cw_col hI ho1 (m11).toInt.toNat
        refine pq_istore [some (.ref (q 3)), some (.ref (q o1)), some (.int x2), some (.int x3), some (.int (-1 : Int32)), some (.int z5_19), some (.int y3), some (.int z7_19), some (.int (e (o1 + 1) (m11).toInt.toNat))] rfl (pq_iload5 ?_)
        have k1 : (1 : Int32).toInt = 1 := rfl
        refine pq_iconst (pq_iload8 (pq_ishl (pq_iand (pq_icond_ne ?_))))
        refine And.intro (fun c13 => ?_) (fun c13 => ?_)
        · skip
          have dc13 := pm_neI c13
          refine hC.1 2 89 _ _ rfl _ _ _ _ _ ?_
          refine pq_iinc (fun zm_9 => [some (.ref (q 3)), some (.ref (q o1)), some (.int x2), some (.int x3), some (.int (-1 : Int32)), some (.int z5_19), some (.int y3), some (.int zm_9), some (.int (e (o1 + 1) (m11).toInt.toNat))]) rfl (fun _ => rfl) ?_
          intro m14 em_89
          try have e14 : m14.toInt = (z7_19).toInt + (1) := by rw [em_89]; exact pm_addc _ _ (1) rfl (by omega) (by omega)
          refine pq_goto ?_
          exact hC.2 [false, false, false, false, false, false, false, false, true] _ _ _ _ _ _ (ih8 z5_19 m14 v6 f6 hs6 (by omega) (by omega))
        · skip
          have dc13 : ((z5_19 &&& ((1 : Int32) <<< ((e (o1 + 1) (m11).toInt.toNat) &&& 31)))).toInt = (0 : Int32).toInt := congrArg Int32.toInt c13
          refine pq_aload_n0 (qgc_3_2 hI.1 ?_)
          have z15 := hs6.1
          have k24 : (24 : Int32).toInt = 24 := rfl
          refine pq_bipush (pq_icmp_ge ?_)
          refine And.intro (fun c16 => ?_) (fun c16 => ?_)
          · skip
            refine hC.1 2 89 _ _ rfl _ _ _ _ _ ?_
            refine pq_iinc (fun zm_9 => [some (.ref (q 3)), some (.ref (q o1)), some (.int x2), some (.int x3), some (.int (-1 : Int32)), some (.int z5_19), some (.int y3), some (.int zm_9), some (.int (e (o1 + 1) (m11).toInt.toNat))]) rfl (fun _ => rfl) ?_
            intro m17 em_89
            try have e17 : m17.toInt = (z7_19).toInt + (1) := by rw [em_89]; exact pm_addc _ _ (1) rfl (by omega) (by omega)
            refine pq_goto ?_
            exact hC.2 [false, false, false, false, false, false, false, false, true] _ _ _ _ _ _ (ih8 z5_19 m17 v6 f6 hs6 (by omega) (by omega))
          · skip
            refine pq_iload5 (pq_iconst (pq_iload8 (pq_ishl (pq_ior (pq_istore [some (.ref (q 3)), some (.ref (q o1)), some (.int x2), some (.int x3), some (.int (-1 : Int32)), some (.int (z5_19 ||| ((1 : Int32) <<< ((e (o1 + 1) (m11).toInt.toNat) &&& 31)))), some (.int y3), some (.int z7_19), some (.int (e (o1 + 1) (m11).toInt.toNat))] rfl (pq_aload_n0 (qgc_3_0 hI.1 (pq_aload_n0 (qgc_3_2 hI.1 ?_)))))))))
            have z18 := hs6.1
            refine pq_iload8 ?_
            refine qsc_16 hI.1 (by omega) (fun f19 ef19 => ?_)
            have hs19 : cw_S v6 f19 := by rw [ef19]; exact cw_S_f16 hs6 _ _ (by omega)
            refine pq_aload_n0 (pq_dupr (qgc_3_2 hI.1 ?_))
            have z20 := hs19.1
            refine pq_iconst (pq_iadd ?_)
            intro m21 em_85
            try have e21 : m21.toInt = ((v6 0)).toInt + (1) := by rw [em_85]; exact pm_addc _ _ (1) rfl (by omega) (by omega)
            refine quc_3_2 hI.1 (fun v22 ev22 => ?_)
            have hs22 : cw_S v22 f19 := by rw [ev22]; exact cw_S_v0 hs19 _ (by omega)
            have ev22_0 : (v22 0).toInt = (m21).toInt := by rw [ev22]; rfl
            refine pq_nil ?_
            refine hC.1 2 89 _ _ rfl _ _ _ _ _ ?_
            refine pq_iinc (fun zm_9 => [some (.ref (q 3)), some (.ref (q o1)), some (.int x2), some (.int x3), some (.int (-1 : Int32)), some (.int (z5_19 ||| ((1 : Int32) <<< ((e (o1 + 1) (m11).toInt.toNat) &&& 31)))), some (.int y3), some (.int zm_9), some (.int (e (o1 + 1) (m11).toInt.toNat))]) rfl (fun _ => rfl) ?_
            intro m23 em_89
            try have e23 : m23.toInt = (z7_19).toInt + (1) := by rw [em_89]; exact pm_addc _ _ (1) rfl (by omega) (by omega)
            refine pq_goto ?_
            exact hC.2 [false, false, false, false, false, false, false, false, true] _ _ _ _ _ _ (ih8 (z5_19 ||| ((1 : Int32) <<< ((e (o1 + 1) (m11).toInt.toNat) &&& 31))) m23 v22 f19 hs22 (by omega) (by omega))
  exact lp7 (200 - (0 : Int32).toInt).toNat.succ (0 : Int32) (0 : Int32) v5 f hs5 (by omega) (by omega)

set_option maxRecDepth 100000 in
set_option maxHeartbeats 2000000 in
theorem c_X0_listByMost__14 (hI : cw_I K nn dn q w e) (hs : cw_S v f)   : pm_Mt l g 72 0 0 0 [.ref (q 3), .ref (q 2), .ref (q 14)] (cw A0 g K nn dn q w e v f) (cw_Qs A0 g K nn dn q w e (fun r v2 f2 => r = none ∧ (True))) := by
  refine mt_X0_listByMost rfl (fun J hC => ?_)
  have ro_nn : cw_ro K nn := hI.2.1.2.1
  have ro_dn : cw_ro K dn := hI.2.1.2.2.1
  have hu1 := hI.2.1
  unfold cw_W at hu1
  show J 0 [some (.ref (q 3)), some (.ref (q 2)), some (.ref (q 14)), none, none] [] (cw A0 g K nn dn q w e v f) 0 0
  refine hC.1 0 0 _ _ rfl _ _ _ _ _ ?_
  refine pq_aload_n0 ?_
  have k0 : (0 : Int32).toInt = 0 := rfl
  refine pq_iconst ?_
  refine quc_3_2 hI.1 (fun v2 ev2 => ?_)
  have hs2 : cw_S v2 f := by rw [ev2]; exact cw_S_v0 hs _ (by omega)
  have ev2_0 : (v2 0).toInt = ((0 : Int32)).toInt := by rw [ev2]; rfl
  refine pq_iconst (pq_istore_n [some (.ref (q 3)), some (.ref (q 2)), some (.ref (q 14)), some (.int (0 : Int32)), none] rfl (pq_nil ?_))
  have lp4 : ∀ (n : Nat) (z3_7 : Int32) (v3 : Nat → Int32) (f3 : Nat → Nat → Int32), cw_S v3 f3 → (0 ≤ z3_7.toInt ∧ z3_7.toInt ≤ 24) → ((v3 0).toInt ≤ z3_7.toInt) → 200 - z3_7.toInt < (n : Int) → J 7 [some (.ref (q 3)), some (.ref (q 2)), some (.ref (q 14)), some (.int z3_7), none] [] (cw A0 g K nn dn q w e v3 f3) 0 0 := by
    intro n
    induction n with
    | zero =>
      intro z3_7 v3 f3 hs3 j0_7 j1_7 j2_7
      omega
    | succ n ih5 =>
      intro z3_7 v3 f3 hs3 j0_7 j1_7 j2_7
      refine hC.1 1 7 _ _ rfl _ _ _ _ _ ?_
      refine pq_iload_n3 ?_
      have k24 : (24 : Int32).toInt = 24 := rfl
      refine pq_bipush (pq_icmp_ge ?_)
      refine And.intro (fun c6 => ?_) (fun c6 => ?_)
      · skip
        refine hC.1 5 96 _ _ rfl _ _ _ _ _ ?_
        refine pq_ret ?_
        exact ⟨rfl, rfl, v3, f3, rfl, hs3, rfl, by exact True.intro⟩
      · skip
        refine pq_aload_n1 (qgc_2_0 hI.1 (pq_iload_n3 (qlc_14 hI.1 (by omega) (pq_icond_le ?_))))
        refine And.intro (fun c7 => ?_) (fun c7 => ?_)
        · skip
          refine hC.1 4 90 _ _ rfl _ _ _ _ _ ?_
          have k1 : (1 : Int32).toInt = 1 := rfl
          refine pq_iinc (fun zm_9 => [some (.ref (q 3)), some (.ref (q 2)), some (.ref (q 14)), some (.int zm_9), none]) rfl (fun _ => rfl) ?_
          intro m8 em_90
          try have e8 : m8.toInt = (z3_7).toInt + (1) := by rw [em_90]; exact pm_addc _ _ (1) rfl (by omega) (by omega)
          refine pq_goto ?_
          exact ih5 m8 v3 f3 hs3 (by omega) (by omega) (by omega)
        · skip
          refine pq_aload_n0 (qgc_3_2 hI.1 ?_)
          have z9 := hs3.1
          refine pq_istore [some (.ref (q 3)), some (.ref (q 2)), some (.ref (q 14)), some (.int z3_7), some (.int (v3 0))] rfl (pq_nil ?_)
          have lp11 : ∀ (n : Nat) (z4_28 : Int32) (v10 : Nat → Int32) (f10 : Nat → Nat → Int32), cw_S v10 f10 → (0 ≤ z4_28.toInt ∧ z4_28.toInt ≤ (v10 0).toInt ∧ (v10 0).toInt ≤ z3_7.toInt) → z4_28.toInt < (n : Int) → J 28 [some (.ref (q 3)), some (.ref (q 2)), some (.ref (q 14)), some (.int z3_7), some (.int z4_28)] [] (cw A0 g K nn dn q w e v10 f10) 0 0 := by
            intro n
            induction n with
            | zero =>
              intro z4_28 v10 f10 hs10 j0_28 j1_28
              omega
            | succ n ih12 =>
              intro z4_28 v10 f10 hs10 j0_28 j1_28
              refine hC.1 2 28 _ _ rfl _ _ _ _ _ ?_
              refine pq_iload4 (pq_icond_le ?_)
              refine And.intro (fun c13 => ?_) (fun c13 => ?_)
              · skip
                refine hC.1 3 72 _ _ rfl _ _ _ _ _ ?_
                refine pq_aload_n0 (qgc_3_0 hI.1 (pq_iload4 (pq_iload_n3 ?_)))
                refine qsc_16 hI.1 (by omega) (fun f14 ef14 => ?_)
                have hs14 : cw_S v10 f14 := by rw [ef14]; exact cw_S_f16 hs10 _ _ (by omega)
                refine pq_aload_n0 (pq_dupr (qgc_3_2 hI.1 ?_))
                have z15 := hs14.1
                have k1 : (1 : Int32).toInt = 1 := rfl
                refine pq_iconst (pq_iadd ?_)
                intro m16 em_86
                try have e16 : m16.toInt = ((v10 0)).toInt + (1) := by rw [em_86]; exact pm_addc _ _ (1) rfl (by omega) (by omega)
                refine quc_3_2 hI.1 (fun v17 ev17 => ?_)
                have hs17 : cw_S v17 f14 := by rw [ev17]; exact cw_S_v0 hs14 _ (by omega)
                have ev17_0 : (v17 0).toInt = (m16).toInt := by rw [ev17]; rfl
                refine pq_nil ?_
                refine hC.1 4 90 _ _ rfl _ _ _ _ _ ?_
                refine pq_iinc (fun zm_9 => [some (.ref (q 3)), some (.ref (q 2)), some (.ref (q 14)), some (.int zm_9), some (.int z4_28)]) rfl (fun _ => rfl) ?_
                intro m18 em_90
                try have e18 : m18.toInt = (z3_7).toInt + (1) := by rw [em_90]; exact pm_addc _ _ (1) rfl (by omega) (by omega)
                refine pq_goto ?_
                exact hC.2 [false, false, false, false, true] _ _ _ _ _ _ (ih5 m18 v17 f14 hs17 (by omega) (by omega) (by omega))
              · skip
                refine pq_aload_n2 (pq_aload_n0 (qgc_3_0 hI.1 (pq_iload4 ?_)))
                have k1 : (1 : Int32).toInt = 1 := rfl
                refine pq_iconst (pq_isub ?_)
                intro m19 em_41
                try have e19 : m19.toInt = (z4_28).toInt - (1) := by rw [em_41]; exact pm_subc _ _ (1) rfl (by omega) (by omega)
                refine qlc_16 hI.1 (by omega) ?_
                have w20 := hs10.2.1 (m19).toInt.toNat
                refine qlc_14 hI.1 (by omega) (pq_aload_n2 (pq_iload_n3 (qlc_14 hI.1 (by omega) (pq_icmp_ge ?_))))
                refine And.intro (fun c21 => ?_) (fun c21 => ?_)
                · skip
                  refine hC.1 3 72 _ _ rfl _ _ _ _ _ ?_
                  refine pq_aload_n0 (qgc_3_0 hI.1 (pq_iload4 (pq_iload_n3 ?_)))
                  refine qsc_16 hI.1 (by omega) (fun f22 ef22 => ?_)
                  have hs22 : cw_S v10 f22 := by rw [ef22]; exact cw_S_f16 hs10 _ _ (by omega)
                  refine pq_aload_n0 (pq_dupr (qgc_3_2 hI.1 ?_))
                  have z23 := hs22.1
                  refine pq_iconst (pq_iadd ?_)
                  intro m24 em_86
                  try have e24 : m24.toInt = ((v10 0)).toInt + (1) := by rw [em_86]; exact pm_addc _ _ (1) rfl (by omega) (by omega)
                  refine quc_3_2 hI.1 (fun v25 ev25 => ?_)
                  have hs25 : cw_S v25 f22 := by rw [ev25]; exact cw_S_v0 hs22 _ (by omega)
                  have ev25_0 : (v25 0).toInt = (m24).toInt := by rw [ev25]; rfl
                  refine pq_nil ?_
                  refine hC.1 4 90 _ _ rfl _ _ _ _ _ ?_
                  refine pq_iinc (fun zm_9 => [some (.ref (q 3)), some (.ref (q 2)), some (.ref (q 14)), some (.int zm_9), some (.int z4_28)]) rfl (fun _ => rfl) ?_
                  intro m26 em_90
                  try have e26 : m26.toInt = (z3_7).toInt + (1) := by rw [em_90]; exact pm_addc _ _ (1) rfl (by omega) (by omega)
                  refine pq_goto ?_
                  exact hC.2 [false, false, false, false, true] _ _ _ _ _ _ (ih5 m26 v25 f22 hs25 (by omega) (by omega) (by omega))
                · skip
                  refine pq_aload_n0 (qgc_3_0 hI.1 (pq_iload4 (pq_aload_n0 (qgc_3_0 hI.1 (pq_iload4 (pq_iconst (pq_isub ?_)))))))
                  intro m27 em_63
                  try have e27 : m27.toInt = (z4_28).toInt - (1) := by rw [em_63]; exact pm_subc _ _ (1) rfl (by omega) (by omega)
                  refine qlc_16 hI.1 (by omega) ?_
                  have w28 := hs10.2.1 (m27).toInt.toNat
                  refine qsc_16 hI.1 (by omega) (fun f29 ef29 => ?_)
                  have hs29 : cw_S v10 f29 := by rw [ef29]; exact cw_S_f16 hs10 _ _ (by omega)
                  have km1 : (-1 : Int32).toInt = -1 := rfl
                  refine pq_iinc (fun zm_9 => [some (.ref (q 3)), some (.ref (q 2)), some (.ref (q 14)), some (.int z3_7), some (.int zm_9)]) rfl (fun _ => rfl) ?_
                  intro m30 em_66
                  try have e30 : m30.toInt = (z4_28).toInt + (-1) := by rw [em_66]; exact pm_addc _ _ (-1) rfl (by omega) (by omega)
                  refine pq_goto ?_
                  exact ih12 m30 v10 f29 hs29 (by omega) (by omega)
          exact lp11 ((v3 0).toInt).toNat.succ (v3 0) v3 f3 hs3 (by omega) (by omega)
  exact lp4 (200 - (0 : Int32).toInt).toNat.succ (0 : Int32) v2 f hs2 (by omega) (by omega) (by omega)

end
end
section
section
variable {l : Launch} {g : pm_G} {A0 : pm_H} {K nn dn : Nat} {q : Nat → Nat} {w : Nat → Int32} {e : Nat → Nat → Int32} {v : Nat → Int32} {f : Nat → Nat → Int32}
set_option maxRecDepth 100000 in
set_option maxHeartbeats 2000000 in
theorem c_X0_listByMost__15 (hI : cw_I K nn dn q w e) (hs : cw_S v f)   : pm_Mt l g 72 0 0 0 [.ref (q 3), .ref (q 2), .ref (q 15)] (cw A0 g K nn dn q w e v f) (cw_Qs A0 g K nn dn q w e (fun r v2 f2 => r = none ∧ (True))) := by
  refine mt_X0_listByMost rfl (fun J hC => ?_)
  have ro_nn : cw_ro K nn := hI.2.1.2.1
  have ro_dn : cw_ro K dn := hI.2.1.2.2.1
  have hu1 := hI.2.1
  unfold cw_W at hu1
  show J 0 [some (.ref (q 3)), some (.ref (q 2)), some (.ref (q 15)), none, none] [] (cw A0 g K nn dn q w e v f) 0 0
  refine hC.1 0 0 _ _ rfl _ _ _ _ _ ?_
  refine pq_aload_n0 ?_
  have k0 : (0 : Int32).toInt = 0 := rfl
  refine pq_iconst ?_
  refine quc_3_2 hI.1 (fun v2 ev2 => ?_)
  have hs2 : cw_S v2 f := by rw [ev2]; exact cw_S_v0 hs _ (by omega)
  have ev2_0 : (v2 0).toInt = ((0 : Int32)).toInt := by rw [ev2]; rfl
  refine pq_iconst (pq_istore_n [some (.ref (q 3)), some (.ref (q 2)), some (.ref (q 15)), some (.int (0 : Int32)), none] rfl (pq_nil ?_))
  have lp4 : ∀ (n : Nat) (z3_7 : Int32) (v3 : Nat → Int32) (f3 : Nat → Nat → Int32), cw_S v3 f3 → (0 ≤ z3_7.toInt ∧ z3_7.toInt ≤ 24) → ((v3 0).toInt ≤ z3_7.toInt) → 200 - z3_7.toInt < (n : Int) → J 7 [some (.ref (q 3)), some (.ref (q 2)), some (.ref (q 15)), some (.int z3_7), none] [] (cw A0 g K nn dn q w e v3 f3) 0 0 := by
    intro n
    induction n with
    | zero =>
      intro z3_7 v3 f3 hs3 j0_7 j1_7 j2_7
      omega
    | succ n ih5 =>
      intro z3_7 v3 f3 hs3 j0_7 j1_7 j2_7
      refine hC.1 1 7 _ _ rfl _ _ _ _ _ ?_
      refine pq_iload_n3 ?_
      have k24 : (24 : Int32).toInt = 24 := rfl
      refine pq_bipush (pq_icmp_ge ?_)
      refine And.intro (fun c6 => ?_) (fun c6 => ?_)
      · skip
        refine hC.1 5 96 _ _ rfl _ _ _ _ _ ?_
        refine pq_ret ?_
        exact ⟨rfl, rfl, v3, f3, rfl, hs3, rfl, by exact True.intro⟩
      · skip
        refine pq_aload_n1 (qgc_2_0 hI.1 (pq_iload_n3 (qlc_14 hI.1 (by omega) (pq_icond_le ?_))))
        refine And.intro (fun c7 => ?_) (fun c7 => ?_)
        · skip
          refine hC.1 4 90 _ _ rfl _ _ _ _ _ ?_
          have k1 : (1 : Int32).toInt = 1 := rfl
          refine pq_iinc (fun zm_9 => [some (.ref (q 3)), some (.ref (q 2)), some (.ref (q 15)), some (.int zm_9), none]) rfl (fun _ => rfl) ?_
          intro m8 em_90
          try have e8 : m8.toInt = (z3_7).toInt + (1) := by rw [em_90]; exact pm_addc _ _ (1) rfl (by omega) (by omega)
          refine pq_goto ?_
          exact ih5 m8 v3 f3 hs3 (by omega) (by omega) (by omega)
        · skip
          refine pq_aload_n0 (qgc_3_2 hI.1 ?_)
          have z9 := hs3.1
          refine pq_istore [some (.ref (q 3)), some (.ref (q 2)), some (.ref (q 15)), some (.int z3_7), some (.int (v3 0))] rfl (pq_nil ?_)
          have lp11 : ∀ (n : Nat) (z4_28 : Int32) (v10 : Nat → Int32) (f10 : Nat → Nat → Int32), cw_S v10 f10 → (0 ≤ z4_28.toInt ∧ z4_28.toInt ≤ (v10 0).toInt ∧ (v10 0).toInt ≤ z3_7.toInt) → z4_28.toInt < (n : Int) → J 28 [some (.ref (q 3)), some (.ref (q 2)), some (.ref (q 15)), some (.int z3_7), some (.int z4_28)] [] (cw A0 g K nn dn q w e v10 f10) 0 0 := by
            intro n
            induction n with
            | zero =>
              intro z4_28 v10 f10 hs10 j0_28 j1_28
              omega
            | succ n ih12 =>
              intro z4_28 v10 f10 hs10 j0_28 j1_28
              refine hC.1 2 28 _ _ rfl _ _ _ _ _ ?_
              refine pq_iload4 (pq_icond_le ?_)
              refine And.intro (fun c13 => ?_) (fun c13 => ?_)
              · skip
                refine hC.1 3 72 _ _ rfl _ _ _ _ _ ?_
                refine pq_aload_n0 (qgc_3_0 hI.1 (pq_iload4 (pq_iload_n3 ?_)))
                refine qsc_16 hI.1 (by omega) (fun f14 ef14 => ?_)
                have hs14 : cw_S v10 f14 := by rw [ef14]; exact cw_S_f16 hs10 _ _ (by omega)
                refine pq_aload_n0 (pq_dupr (qgc_3_2 hI.1 ?_))
                have z15 := hs14.1
                have k1 : (1 : Int32).toInt = 1 := rfl
                refine pq_iconst (pq_iadd ?_)
                intro m16 em_86
                try have e16 : m16.toInt = ((v10 0)).toInt + (1) := by rw [em_86]; exact pm_addc _ _ (1) rfl (by omega) (by omega)
                refine quc_3_2 hI.1 (fun v17 ev17 => ?_)
                have hs17 : cw_S v17 f14 := by rw [ev17]; exact cw_S_v0 hs14 _ (by omega)
                have ev17_0 : (v17 0).toInt = (m16).toInt := by rw [ev17]; rfl
                refine pq_nil ?_
                refine hC.1 4 90 _ _ rfl _ _ _ _ _ ?_
                refine pq_iinc (fun zm_9 => [some (.ref (q 3)), some (.ref (q 2)), some (.ref (q 15)), some (.int zm_9), some (.int z4_28)]) rfl (fun _ => rfl) ?_
                intro m18 em_90
                try have e18 : m18.toInt = (z3_7).toInt + (1) := by rw [em_90]; exact pm_addc _ _ (1) rfl (by omega) (by omega)
                refine pq_goto ?_
                exact hC.2 [false, false, false, false, true] _ _ _ _ _ _ (ih5 m18 v17 f14 hs17 (by omega) (by omega) (by omega))
              · skip
                refine pq_aload_n2 (pq_aload_n0 (qgc_3_0 hI.1 (pq_iload4 ?_)))
                have k1 : (1 : Int32).toInt = 1 := rfl
                refine pq_iconst (pq_isub ?_)
                intro m19 em_41
                try have e19 : m19.toInt = (z4_28).toInt - (1) := by rw [em_41]; exact pm_subc _ _ (1) rfl (by omega) (by omega)
                refine qlc_16 hI.1 (by omega) ?_
                have w20 := hs10.2.1 (m19).toInt.toNat
                refine qlc_15 hI.1 (by omega) (pq_aload_n2 (pq_iload_n3 (qlc_15 hI.1 (by omega) (pq_icmp_ge ?_))))
                refine And.intro (fun c21 => ?_) (fun c21 => ?_)
                · skip
                  refine hC.1 3 72 _ _ rfl _ _ _ _ _ ?_
                  refine pq_aload_n0 (qgc_3_0 hI.1 (pq_iload4 (pq_iload_n3 ?_)))
                  refine qsc_16 hI.1 (by omega) (fun f22 ef22 => ?_)
                  have hs22 : cw_S v10 f22 := by rw [ef22]; exact cw_S_f16 hs10 _ _ (by omega)
                  refine pq_aload_n0 (pq_dupr (qgc_3_2 hI.1 ?_))
                  have z23 := hs22.1
                  refine pq_iconst (pq_iadd ?_)
                  intro m24 em_86
                  try have e24 : m24.toInt = ((v10 0)).toInt + (1) := by rw [em_86]; exact pm_addc _ _ (1) rfl (by omega) (by omega)
                  refine quc_3_2 hI.1 (fun v25 ev25 => ?_)
                  have hs25 : cw_S v25 f22 := by rw [ev25]; exact cw_S_v0 hs22 _ (by omega)
                  have ev25_0 : (v25 0).toInt = (m24).toInt := by rw [ev25]; rfl
                  refine pq_nil ?_
                  refine hC.1 4 90 _ _ rfl _ _ _ _ _ ?_
                  refine pq_iinc (fun zm_9 => [some (.ref (q 3)), some (.ref (q 2)), some (.ref (q 15)), some (.int zm_9), some (.int z4_28)]) rfl (fun _ => rfl) ?_
                  intro m26 em_90
                  try have e26 : m26.toInt = (z3_7).toInt + (1) := by rw [em_90]; exact pm_addc _ _ (1) rfl (by omega) (by omega)
                  refine pq_goto ?_
                  exact hC.2 [false, false, false, false, true] _ _ _ _ _ _ (ih5 m26 v25 f22 hs25 (by omega) (by omega) (by omega))
                · skip
                  refine pq_aload_n0 (qgc_3_0 hI.1 (pq_iload4 (pq_aload_n0 (qgc_3_0 hI.1 (pq_iload4 (pq_iconst (pq_isub ?_)))))))
                  intro m27 em_63
                  try have e27 : m27.toInt = (z4_28).toInt - (1) := by rw [em_63]; exact pm_subc _ _ (1) rfl (by omega) (by omega)
                  refine qlc_16 hI.1 (by omega) ?_
                  have w28 := hs10.2.1 (m27).toInt.toNat
                  refine qsc_16 hI.1 (by omega) (fun f29 ef29 => ?_)
                  have hs29 : cw_S v10 f29 := by rw [ef29]; exact cw_S_f16 hs10 _ _ (by omega)
                  have km1 : (-1 : Int32).toInt = -1 := rfl
                  refine pq_iinc (fun zm_9 => [some (.ref (q 3)), some (.ref (q 2)), some (.ref (q 15)), some (.int z3_7), some (.int zm_9)]) rfl (fun _ => rfl) ?_
                  intro m30 em_66
                  try have e30 : m30.toInt = (z4_28).toInt + (-1) := by rw [em_66]; exact pm_addc _ _ (-1) rfl (by omega) (by omega)
                  refine pq_goto ?_
                  exact ih12 m30 v10 f29 hs29 (by omega) (by omega)
          exact lp11 ((v3 0).toInt).toNat.succ (v3 0) v3 f3 hs3 (by omega) (by omega)
  exact lp4 (200 - (0 : Int32).toInt).toNat.succ (0 : Int32) v2 f hs2 (by omega) (by omega) (by omega)

set_option maxRecDepth 100000 in
set_option maxHeartbeats 2000000 in
theorem c_X0_colourInOrder (hI : cw_I K nn dn q w e) (hs : cw_S v f) {o1 : Nat} (ho1 : cw_ro K o1) (x3 : Int32) (x4 : Int32) (x5 : Int32) (x6 : Int32) (p0 : 0 ≤ x3.toInt ∧ x3.toInt ≤ x4.toInt ∧ x4.toInt < (w o1).toInt) : pm_Mt l g 68 2 0 0 [.ref (q 3), .ref (q o1), .ref (q 2), .int x3, .int x4, .int x5, .int x6] (cw A0 g K nn dn q w e v f) (cw_Qs A0 g K nn dn q w e (fun r v2 f2 => ∃ x : Int32, r = some (.int x) ∧ (True))) := by
  refine mt_X0_colourInOrder rfl (fun J hC => ?_)
  have ro_nn : cw_ro K nn := hI.2.1.2.1
  have ro_dn : cw_ro K dn := hI.2.1.2.2.1
  have hu1 := hI.2.1
  unfold cw_W at hu1
  have rg_x3 := pm_rng x3
  have rg_x4 := pm_rng x4
  have rg_x5 := pm_rng x5
  have rg_x6 := pm_rng x6
  have zz0 := cw_sz hI ho1
  show J 0 [some (.ref (q 3)), some (.ref (q o1)), some (.ref (q 2)), some (.int x3), some (.int x4), some (.int x5), some (.int x6)] [] (cw A0 g K nn dn q w e v f) 0 0
  refine hC.1 0 0 _ _ rfl _ _ _ _ _ ?_
  refine pq_iload6 (pq_ts ?_)
  refine pm_swc 5 rfl (by decide) ?_ ?_
  · intro _
    refine hC.1 6 95 _ _ rfl _ _ _ _ _ ?_
    have km1 : (-1 : Int32).toInt = -1 := rfl
    refine pq_iconst (pq_iret ?_)
    exact ⟨rfl, fun e9 => absurd e9 (by decide), rfl, v, f, rfl, hs, (-1 : Int32), rfl, by exact True.intro⟩
  · intro i9 hi9 he9
    rcases (show i9 = 0 ∨ i9 = 1 ∨ i9 = 2 ∨ i9 = 3 ∨ i9 = 4 by omega) with rfl | rfl | rfl | rfl | rfl
    · skip
      refine hC.1 1 36 _ _ rfl _ _ _ _ _ ?_
      refine pq_aload_n0 (pq_aload_n1 (pq_iload_n3 (pq_iload4 ?_)))
      have k1 : (1 : Int32).toInt = 1 := rfl
      refine pq_iconst (pq_iv4_0 ?_)
      refine And.intro (Exists.intro _ (cw_o3 hI.1)) (Exists.intro _ (Exists.intro _ (Exists.intro _ (Exists.intro _ (And.intro (c_X0_listAsMet__c1 hI hs ho1 x3 x4 (by omega)) (And.intro rfl (fun r9 A9 h9 => ?_)))))))
      rcases h9 with ⟨v5, f5, rfl, hs5, rfl, by4⟩
      refine pq_id0 (pq_goto ?_)
      refine hC.1 7 97 _ _ rfl _ _ _ _ _ ?_
      refine pq_iload5 (pq_icond_lt ?_)
      refine And.intro (fun c6 => ?_) (fun c6 => ?_)
      · skip
        refine hC.1 8 121 _ _ rfl _ _ _ _ _ ?_
        have km1 : (-1 : Int32).toInt = -1 := rfl
        refine pq_iconst (pq_nil ?_)
        refine hC.1 9 122 _ _ rfl _ _ _ _ _ ?_
        refine pq_iret ?_
        exact ⟨rfl, fun e9 => absurd e9 (by decide), rfl, v5, f5, rfl, hs5, (-1 : Int32), rfl, by exact True.intro⟩
      · skip
        refine pq_iload5 (pq_aload_n0 (qgc_3_2 hI.1 ?_))
        have z7 := hs5.1
        refine pq_icmp_ge ?_
        refine And.intro (fun c8 => ?_) (fun c8 => ?_)
        · skip
          refine hC.1 8 121 _ _ rfl _ _ _ _ _ ?_
          have km1 : (-1 : Int32).toInt = -1 := rfl
          refine pq_iconst (pq_nil ?_)
          refine hC.1 9 122 _ _ rfl _ _ _ _ _ ?_
          refine pq_iret ?_
          exact ⟨rfl, fun e9 => absurd e9 (by decide), rfl, v5, f5, rfl, hs5, (-1 : Int32), rfl, by exact True.intro⟩
        · skip
          refine pq_aload_n0 (qgc_3_0 hI.1 (pq_iload5 (qlc_16 hI.1 (by omega) ?_)))
          have w9 := hs5.2.1 (x5).toInt.toNat
          refine pq_goto ?_
          refine hC.1 9 122 _ _ rfl _ _ _ _ _ ?_
          refine pq_iret ?_
          exact ⟨rfl, fun e9 => absurd e9 (by decide), rfl, v5, f5, rfl, hs5, (f5 16 (x5).toInt.toNat), rfl, by exact True.intro⟩
    · skip
      refine hC.1 2 48 _ _ rfl _ _ _ _ _ ?_
      refine pq_aload_n0 (pq_aload_n1 (pq_iload4 (pq_iload_n3 ?_)))
      have km1 : (-1 : Int32).toInt = -1 := rfl
      refine pq_iconst (pq_iv4_0 ?_)
      refine And.intro (Exists.intro _ (cw_o3 hI.1)) (Exists.intro _ (Exists.intro _ (Exists.intro _ (Exists.intro _ (And.intro (c_X0_listAsMet__cm1 hI hs ho1 x4 x3 (by omega)) (And.intro rfl (fun r9 A9 h9 => ?_)))))))
      rcases h9 with ⟨v11, f11, rfl, hs11, rfl, by10⟩
      refine pq_id0 (pq_goto ?_)
      refine hC.1 7 97 _ _ rfl _ _ _ _ _ ?_
      refine pq_iload5 (pq_icond_lt ?_)
      refine And.intro (fun c12 => ?_) (fun c12 => ?_)
      · skip
        refine hC.1 8 121 _ _ rfl _ _ _ _ _ ?_
        refine pq_iconst (pq_nil ?_)
        refine hC.1 9 122 _ _ rfl _ _ _ _ _ ?_
        refine pq_iret ?_
        exact ⟨rfl, fun e9 => absurd e9 (by decide), rfl, v11, f11, rfl, hs11, (-1 : Int32), rfl, by exact True.intro⟩
      · skip
        refine pq_iload5 (pq_aload_n0 (qgc_3_2 hI.1 ?_))
        have z13 := hs11.1
        refine pq_icmp_ge ?_
        refine And.intro (fun c14 => ?_) (fun c14 => ?_)
        · skip
          refine hC.1 8 121 _ _ rfl _ _ _ _ _ ?_
          refine pq_iconst (pq_nil ?_)
          refine hC.1 9 122 _ _ rfl _ _ _ _ _ ?_
          refine pq_iret ?_
          exact ⟨rfl, fun e9 => absurd e9 (by decide), rfl, v11, f11, rfl, hs11, (-1 : Int32), rfl, by exact True.intro⟩
        · skip
          refine pq_aload_n0 (qgc_3_0 hI.1 (pq_iload5 (qlc_16 hI.1 (by omega) ?_)))
          have w15 := hs11.2.1 (x5).toInt.toNat
          refine pq_goto ?_
          refine hC.1 9 122 _ _ rfl _ _ _ _ _ ?_
          refine pq_iret ?_
          exact ⟨rfl, fun e9 => absurd e9 (by decide), rfl, v11, f11, rfl, hs11, (f11 16 (x5).toInt.toNat), rfl, by exact True.intro⟩
    · skip
      refine hC.1 3 60 _ _ rfl _ _ _ _ _ ?_
      refine pq_aload_n0 (pq_aload_n2 (qgc_2_4 hI.1 (pq_iload5 (pq_iv2_0 ?_))))
      refine And.intro (Exists.intro _ (cw_o3 hI.1)) (Exists.intro _ (Exists.intro _ (Exists.intro _ (Exists.intro _ (And.intro (c_X0_colourOf hI hs (v 3) x5 ) (And.intro rfl (fun r9 A9 h9 => ?_)))))))
      obtain ⟨y16, rfl, rfl, by16⟩ := h9
      refine pq_id1 (pq_iret ?_)
      exact ⟨rfl, fun e9 => absurd e9 (by decide), rfl, v, f, rfl, hs, y16, rfl, by exact True.intro⟩
    · skip
      refine hC.1 4 71 _ _ rfl _ _ _ _ _ ?_
      refine pq_aload_n0 (pq_aload_n2 (pq_aload_n2 (qgc_2_1 hI.1 (pq_iv2_0 ?_))))
      refine And.intro (Exists.intro _ (cw_o3 hI.1)) (Exists.intro _ (Exists.intro _ (Exists.intro _ (Exists.intro _ (And.intro (c_X0_listByMost__15 hI hs  ) (And.intro rfl (fun r9 A9 h9 => ?_)))))))
      rcases h9 with ⟨v19, f19, rfl, hs19, rfl, by18⟩
      refine pq_id0 (pq_goto ?_)
      refine hC.1 7 97 _ _ rfl _ _ _ _ _ ?_
      refine pq_iload5 (pq_icond_lt ?_)
      refine And.intro (fun c20 => ?_) (fun c20 => ?_)
      · skip
        refine hC.1 8 121 _ _ rfl _ _ _ _ _ ?_
        have km1 : (-1 : Int32).toInt = -1 := rfl
        refine pq_iconst (pq_nil ?_)
        refine hC.1 9 122 _ _ rfl _ _ _ _ _ ?_
        refine pq_iret ?_
        exact ⟨rfl, fun e9 => absurd e9 (by decide), rfl, v19, f19, rfl, hs19, (-1 : Int32), rfl, by exact True.intro⟩
      · skip
        refine pq_iload5 (pq_aload_n0 (qgc_3_2 hI.1 ?_))
        have z21 := hs19.1
        refine pq_icmp_ge ?_
        refine And.intro (fun c22 => ?_) (fun c22 => ?_)
        · skip
          refine hC.1 8 121 _ _ rfl _ _ _ _ _ ?_
          have km1 : (-1 : Int32).toInt = -1 := rfl
          refine pq_iconst (pq_nil ?_)
          refine hC.1 9 122 _ _ rfl _ _ _ _ _ ?_
          refine pq_iret ?_
          exact ⟨rfl, fun e9 => absurd e9 (by decide), rfl, v19, f19, rfl, hs19, (-1 : Int32), rfl, by exact True.intro⟩
        · skip
          refine pq_aload_n0 (qgc_3_0 hI.1 (pq_iload5 (qlc_16 hI.1 (by omega) ?_)))
          have w23 := hs19.2.1 (x5).toInt.toNat
          refine pq_goto ?_
          refine hC.1 9 122 _ _ rfl _ _ _ _ _ ?_
          refine pq_iret ?_
          exact ⟨rfl, fun e9 => absurd e9 (by decide), rfl, v19, f19, rfl, hs19, (f19 16 (x5).toInt.toNat), rfl, by exact True.intro⟩
    · skip
      refine hC.1 5 83 _ _ rfl _ _ _ _ _ ?_
      refine pq_aload_n0 (pq_aload_n2 (pq_aload_n2 (qgc_2_0 hI.1 (pq_iv2_0 ?_))))
      refine And.intro (Exists.intro _ (cw_o3 hI.1)) (Exists.intro _ (Exists.intro _ (Exists.intro _ (Exists.intro _ (And.intro (c_X0_listByMost__14 hI hs  ) (And.intro rfl (fun r9 A9 h9 => ?_)))))))
      rcases h9 with ⟨v25, f25, rfl, hs25, rfl, by24⟩
      refine pq_id0 (pq_goto ?_)
      refine hC.1 7 97 _ _ rfl _ _ _ _ _ ?_
      refine pq_iload5 (pq_icond_lt ?_)
      refine And.intro (fun c26 => ?_) (fun c26 => ?_)
      · skip
        refine hC.1 8 121 _ _ rfl _ _ _ _ _ ?_
        have km1 : (-1 : Int32).toInt = -1 := rfl
        refine pq_iconst (pq_nil ?_)
        refine hC.1 9 122 _ _ rfl _ _ _ _ _ ?_
        refine pq_iret ?_
        exact ⟨rfl, fun e9 => absurd e9 (by decide), rfl, v25, f25, rfl, hs25, (-1 : Int32), rfl, by exact True.intro⟩
      · skip
        refine pq_iload5 (pq_aload_n0 (qgc_3_2 hI.1 ?_))
        have z27 := hs25.1
        refine pq_icmp_ge ?_
        refine And.intro (fun c28 => ?_) (fun c28 => ?_)
        · skip
          refine hC.1 8 121 _ _ rfl _ _ _ _ _ ?_
          have km1 : (-1 : Int32).toInt = -1 := rfl
          refine pq_iconst (pq_nil ?_)
          refine hC.1 9 122 _ _ rfl _ _ _ _ _ ?_
          refine pq_iret ?_
          exact ⟨rfl, fun e9 => absurd e9 (by decide), rfl, v25, f25, rfl, hs25, (-1 : Int32), rfl, by exact True.intro⟩
        · skip
          refine pq_aload_n0 (qgc_3_0 hI.1 (pq_iload5 (qlc_16 hI.1 (by omega) ?_)))
          have w29 := hs25.2.1 (x5).toInt.toNat
          refine pq_goto ?_
          refine hC.1 9 122 _ _ rfl _ _ _ _ _ ?_
          refine pq_iret ?_
          exact ⟨rfl, fun e9 => absurd e9 (by decide), rfl, v25, f25, rfl, hs25, (f25 16 (x5).toInt.toNat), rfl, by exact True.intro⟩

set_option maxRecDepth 100000 in
set_option maxHeartbeats 2000000 in
theorem c_X1_clearPair (hI : cw_I K nn dn q w e) (hs : cw_S v f)   : pm_Mt l g 82 0 0 0 [.ref (q 4)] (cw A0 g K nn dn q w e v f) (cw_Qs A0 g K nn dn q w e (fun r v2 f2 => r = none ∧ (True))) := by
  refine mt_X1_clearPair rfl (fun J hC => ?_)
  have ro_nn : cw_ro K nn := hI.2.1.2.1
  have ro_dn : cw_ro K dn := hI.2.1.2.2.1
  have hu1 := hI.2.1
  unfold cw_W at hu1
  show J 0 [some (.ref (q 4))] [] (cw A0 g K nn dn q w e v f) 0 0
  refine hC.1 0 0 _ _ rfl _ _ _ _ _ ?_
  refine pq_aload_n0 ?_
  have km1 : (-1 : Int32).toInt = -1 := rfl
  refine pq_iconst ?_
  refine quc_4_3 hI.1 (fun v2 ev2 => ?_)
  have hs2 : cw_S v2 f := by rw [ev2]; exact cw_S_v hs 5 _ (by decide)
  have ev2_0 : (v2 0).toInt = (v 0).toInt := by rw [ev2]; rfl
  refine pq_aload_n0 (pq_iconst ?_)
  refine quc_4_4 hI.1 (fun v3 ev3 => ?_)
  have hs3 : cw_S v3 f := by rw [ev3]; exact cw_S_v hs2 6 _ (by decide)
  have ev3_0 : (v3 0).toInt = (v2 0).toInt := by rw [ev3]; rfl
  refine pq_ret ?_
  exact ⟨rfl, rfl, v3, f, rfl, hs3, rfl, by exact True.intro⟩

set_option maxRecDepth 100000 in
set_option maxHeartbeats 2000000 in
theorem c_X1_offerPair (hI : cw_I K nn dn q w e) (hs : cw_S v f) (x1 : Int32) (x2 : Int32)  : pm_Mt l g 83 0 0 0 [.ref (q 4), .int x1, .int x2] (cw A0 g K nn dn q w e v f) (cw_Qs A0 g K nn dn q w e (fun r v2 f2 => r = none ∧ (True))) := by
  refine mt_X1_offerPair rfl (fun J hC => ?_)
  have ro_nn : cw_ro K nn := hI.2.1.2.1
  have ro_dn : cw_ro K dn := hI.2.1.2.2.1
  have hu1 := hI.2.1
  unfold cw_W at hu1
  have rg_x1 := pm_rng x1
  have rg_x2 := pm_rng x2
  show J 0 [some (.ref (q 4)), some (.int x1), some (.int x2)] [] (cw A0 g K nn dn q w e v f) 0 0
  refine hC.1 0 0 _ _ rfl _ _ _ _ _ ?_
  refine pq_aload_n0 (qgc_4_3 hI.1 ?_)
  have km1 : (-1 : Int32).toInt = -1 := rfl
  refine pq_iconst (pq_icmp_eq ?_)
  refine And.intro (fun c2 => ?_) (fun c2 => ?_)
  · skip
    have dc2 : ((v 5)).toInt = ((-1 : Int32) : Int32).toInt := congrArg Int32.toInt c2
    refine hC.1 1 18 _ _ rfl _ _ _ _ _ ?_
    refine pq_aload_n0 (pq_iload_n2 (pq_iload_n1 (pq_isub ?_)))
    intro m3 em_21
    try have e3 : m3.toInt = (x2).toInt - (x1).toInt := by rw [em_21]; exact pm_sub _ _ (by omega) (by omega)
    refine quc_4_3 hI.1 (fun v4 ev4 => ?_)
    have hs4 : cw_S v4 f := by rw [ev4]; exact cw_S_v hs 5 _ (by decide)
    have ev4_0 : (v4 0).toInt = (v 0).toInt := by rw [ev4]; rfl
    refine pq_aload_n0 (pq_iload_n1 ?_)
    refine quc_4_4 hI.1 (fun v5 ev5 => ?_)
    have hs5 : cw_S v5 f := by rw [ev5]; exact cw_S_v hs4 6 _ (by decide)
    have ev5_0 : (v5 0).toInt = (v4 0).toInt := by rw [ev5]; rfl
    refine pq_nil ?_
    refine hC.1 2 30 _ _ rfl _ _ _ _ _ ?_
    refine pq_ret ?_
    exact ⟨rfl, rfl, v5, f, rfl, hs5, rfl, by exact True.intro⟩
  · skip
    have dc2 := pm_neI c2
    refine pq_iload_n2 (pq_iload_n1 (pq_isub ?_))
    intro m6 em_10
    try have e6 : m6.toInt = (x2).toInt - (x1).toInt := by rw [em_10]; exact pm_sub _ _ (by omega) (by omega)
    refine pq_aload_n0 (qgc_4_3 hI.1 (pq_icmp_ge ?_))
    refine And.intro (fun c7 => ?_) (fun c7 => ?_)
    · skip
      refine hC.1 2 30 _ _ rfl _ _ _ _ _ ?_
      refine pq_ret ?_
      exact ⟨rfl, rfl, v, f, rfl, hs, rfl, by exact True.intro⟩
    · skip
      refine pq_nil ?_
      refine hC.1 1 18 _ _ rfl _ _ _ _ _ ?_
      refine pq_aload_n0 (pq_iload_n2 (pq_iload_n1 (pq_isub ?_)))
      intro m8 em_21
      try have e8 : m8.toInt = (x2).toInt - (x1).toInt := by rw [em_21]; exact pm_sub _ _ (by omega) (by omega)
      refine quc_4_3 hI.1 (fun v9 ev9 => ?_)
      have hs9 : cw_S v9 f := by rw [ev9]; exact cw_S_v hs 5 _ (by decide)
      have ev9_0 : (v9 0).toInt = (v 0).toInt := by rw [ev9]; rfl
      refine pq_aload_n0 (pq_iload_n1 ?_)
      refine quc_4_4 hI.1 (fun v10 ev10 => ?_)
      have hs10 : cw_S v10 f := by rw [ev10]; exact cw_S_v hs9 6 _ (by decide)
      have ev10_0 : (v10 0).toInt = (v9 0).toInt := by rw [ev10]; rfl
      refine pq_nil ?_
      refine hC.1 2 30 _ _ rfl _ _ _ _ _ ?_
      refine pq_ret ?_
      exact ⟨rfl, rfl, v10, f, rfl, hs10, rfl, by exact True.intro⟩

set_option maxRecDepth 100000 in
set_option maxHeartbeats 2000000 in
theorem c_X1_pairFound (hI : cw_I K nn dn q w e) (hs : cw_S v f) (x1 : Int32)  : pm_Mt l g 84 0 0 0 [.ref (q 4), .int x1] (cw A0 g K nn dn q w e v f) (md_Qp (cw A0 g K nn dn q w e v f) (fun r => True)) := by
  refine mt_X1_pairFound rfl (fun J hC => ?_)
  have ro_nn : cw_ro K nn := hI.2.1.2.1
  have ro_dn : cw_ro K dn := hI.2.1.2.2.1
  have hu1 := hI.2.1
  unfold cw_W at hu1
  have rg_x1 := pm_rng x1
  show J 0 [some (.ref (q 4)), some (.int x1)] [] (cw A0 g K nn dn q w e v f) 0 0
  refine hC.1 0 0 _ _ rfl _ _ _ _ _ ?_
  refine pq_iload_n1 (pq_icond_ne ?_)
  refine And.intro (fun c2 => ?_) (fun c2 => ?_)
  · skip
    have dc2 := pm_neI c2
    have k0 : (0 : Int32).toInt = 0 := rfl
    refine hC.1 1 11 _ _ rfl _ _ _ _ _ ?_
    refine pq_iload_n1 ?_
    have k1 : (1 : Int32).toInt = 1 := rfl
    refine pq_iconst (pq_icmp_ne ?_)
    refine And.intro (fun c3 => ?_) (fun c3 => ?_)
    · skip
      have dc3 := pm_neI c3
      refine hC.1 2 23 _ _ rfl _ _ _ _ _ ?_
      have km1 : (-1 : Int32).toInt = -1 := rfl
      refine pq_iconst (pq_nil ?_)
      refine hC.1 3 24 _ _ rfl _ _ _ _ _ ?_
      refine pq_iret ?_
      exact ⟨rfl, fun e9 => absurd e9 (by decide), rfl, (-1 : Int32), rfl, rfl, by exact True.intro⟩
    · skip
      have dc3 : (x1).toInt = ((1 : Int32) : Int32).toInt := congrArg Int32.toInt c3
      refine pq_aload_n0 (qgc_4_4 hI.1 (pq_goto ?_))
      refine hC.1 3 24 _ _ rfl _ _ _ _ _ ?_
      refine pq_iret ?_
      exact ⟨rfl, fun e9 => absurd e9 (by decide), rfl, (v 6), rfl, rfl, by exact True.intro⟩
  · skip
    have dc2 : (x1).toInt = (0 : Int32).toInt := congrArg Int32.toInt c2
    have k0 : (0 : Int32).toInt = 0 := rfl
    refine pq_aload_n0 (qgc_4_3 hI.1 (pq_goto ?_))
    refine hC.1 3 24 _ _ rfl _ _ _ _ _ ?_
    refine pq_iret ?_
    exact ⟨rfl, fun e9 => absurd e9 (by decide), rfl, (v 5), rfl, rfl, by exact True.intro⟩

set_option maxRecDepth 100000 in
set_option maxHeartbeats 2000000 in
theorem c_X1_findNearestAlike (hI : cw_I K nn dn q w e) (hs : cw_S v f) {o1 : Nat} (ho1 : cw_ro K o1) (x2 : Int32) (x3 : Int32) (p0 : 0 ≤ x2.toInt ∧ x2.toInt ≤ x3.toInt ∧ x3.toInt < (w o1).toInt) : pm_Mt l g 81 1 0 0 [.ref (q 4), .ref (q o1), .int x2, .int x3] (cw A0 g K nn dn q w e v f) (cw_Qs A0 g K nn dn q w e (fun r v2 f2 => r = none ∧ (True))) := by
  refine mt_X1_findNearestAlike rfl (fun J hC => ?_)
  have ro_nn : cw_ro K nn := hI.2.1.2.1
  have ro_dn : cw_ro K dn := hI.2.1.2.2.1
  have hu1 := hI.2.1
  unfold cw_W at hu1
  have rg_x2 := pm_rng x2
  have rg_x3 := pm_rng x3
  have zz0 := cw_sz hI ho1
  show J 0 [some (.ref (q 4)), some (.ref (q o1)), some (.int x2), some (.int x3), none] [] (cw A0 g K nn dn q w e v f) 0 0
  refine hC.1 0 0 _ _ rfl _ _ _ _ _ ?_
  refine pq_aload_n0 (pq_iv0_1 ?_)
  refine And.intro (Exists.intro _ (cw_o4 hI.1)) (Exists.intro _ (Exists.intro _ (Exists.intro _ (Exists.intro _ (And.intro (c_X1_clearPair hI hs  ) (And.intro rfl (fun r9 A9 h9 => ?_)))))))
  rcases h9 with ⟨v3, f3, rfl, hs3, rfl, by2⟩
  refine pq_id0 (pq_iload_n2 (pq_istore [some (.ref (q 4)), some (.ref (q o1)), some (.int x2), some (.int x3), some (.int x2)] rfl (pq_nil ?_)))
  have lp5 : ∀ (n : Nat) (z4_7 : Int32) (v4 : Nat → Int32) (f4 : Nat → Nat → Int32), cw_S v4 f4 → (x2.toInt ≤ z4_7.toInt ∧ z4_7.toInt ≤ x3.toInt + 1) → 200 - z4_7.toInt < (n : Int) → J 7 [some (.ref (q 4)), some (.ref (q o1)), some (.int x2), some (.int x3), some (.int z4_7)] [] (cw A0 g K nn dn q w e v4 f4) 0 0 := by
    intro n
    induction n with
    | zero =>
      intro z4_7 v4 f4 hs4 j0_7 j1_7
      omega
    | succ n ih6 =>
      intro z4_7 v4 f4 hs4 j0_7 j1_7
      refine hC.1 1 7 _ _ rfl _ _ _ _ _ ?_
      refine pq_iload4 (pq_iload_n3 (pq_icmp_gt ?_))
      refine And.intro (fun c7 => ?_) (fun c7 => ?_)
      · skip
        refine hC.1 3 43 _ _ rfl _ _ _ _ _ ?_
        refine pq_ret ?_
        exact ⟨rfl, rfl, v4, f4, rfl, hs4, rfl, by exact True.intro⟩
      · skip
        refine pq_aload_n1 (qgr_2 hI.1 ho1 (pq_iload4 (qlc_r3 hI.1 ho1 (by omega) ?_)))
        have w8 := cw_ahd hI ho1 (z4_7).toInt.toNat
        refine pq_iload_n2 (pq_icmp_lt ?_)
        refine And.intro (fun c9 => ?_) (fun c9 => ?_)
        · skip
          refine hC.1 2 37 _ _ rfl _ _ _ _ _ ?_
          have k1 : (1 : Int32).toInt = 1 := rfl
          refine pq_iinc (fun zm_9 => [some (.ref (q 4)), some (.ref (q o1)), some (.int x2), some (.int x3), some (.int zm_9)]) rfl (fun _ => rfl) ?_
          intro m10 em_37
          try have e10 : m10.toInt = (z4_7).toInt + (1) := by rw [em_37]; exact pm_addc _ _ (1) rfl (by omega) (by omega)
          refine pq_goto ?_
          exact ih6 m10 v4 f4 hs4 (by omega) (by omega)
        · skip
          refine pq_aload_n0 (pq_aload_n1 (qgr_2 hI.1 ho1 (pq_iload4 (qlc_r3 hI.1 ho1 (by omega) ?_))))
          have w11 := cw_ahd hI ho1 (z4_7).toInt.toNat
          refine pq_iload4 (pq_iv2_1 ?_)
          refine And.intro (Exists.intro _ (cw_o4 hI.1)) (Exists.intro _ (Exists.intro _ (Exists.intro _ (Exists.intro _ (And.intro (c_X1_offerPair hI hs4 (e (o1 + 3) (z4_7).toInt.toNat) z4_7 ) (And.intro rfl (fun r9 A9 h9 => ?_)))))))
          rcases h9 with ⟨v13, f13, rfl, hs13, rfl, by12⟩
          refine pq_id0 (pq_nil ?_)
          refine hC.1 2 37 _ _ rfl _ _ _ _ _ ?_
          have k1 : (1 : Int32).toInt = 1 := rfl
          refine pq_iinc (fun zm_9 => [some (.ref (q 4)), some (.ref (q o1)), some (.int x2), some (.int x3), some (.int zm_9)]) rfl (fun _ => rfl) ?_
          intro m14 em_37
          try have e14 : m14.toInt = (z4_7).toInt + (1) := by rw [em_37]; exact pm_addc _ _ (1) rfl (by omega) (by omega)
          refine pq_goto ?_
          exact ih6 m14 v13 f13 hs13 (by omega) (by omega)
  exact lp5 (200 - x2.toInt).toNat.succ x2 v3 f3 hs3 (by omega) (by omega)

set_option maxRecDepth 100000 in
set_option maxHeartbeats 2000000 in
theorem c_X1_findNearestOfTwo (hI : cw_I K nn dn q w e) (hs : cw_S v f) {o1 : Nat} (ho1 : cw_ro K o1) (x2 : Int32) (x3 : Int32)  : pm_Mt l g 99 1 0 0 [.ref (q 4), .ref (q o1), .int x2, .int x3] (cw A0 g K nn dn q w e v f) (cw_Qs A0 g K nn dn q w e (fun r v2 f2 => r = none ∧ (True))) := by
  refine mt_X1_findNearestOfTwo rfl (fun J hC => ?_)
  have ro_nn : cw_ro K nn := hI.2.1.2.1
  have ro_dn : cw_ro K dn := hI.2.1.2.2.1
  have hu1 := hI.2.1
  unfold cw_W at hu1
  have rg_x2 := pm_rng x2
  have rg_x3 := pm_rng x3
  have zz0 := cw_sz hI ho1
  show J 0 [some (.ref (q 4)), some (.ref (q o1)), some (.int x2), some (.int x3), none, none, none] [] (cw A0 g K nn dn q w e v f) 0 0
  refine hC.1 0 0 _ _ rfl _ _ _ _ _ ?_
  refine pq_aload_n0 (pq_iv0_1 ?_)
  refine And.intro (Exists.intro _ (cw_o4 hI.1)) (Exists.intro _ (Exists.intro _ (Exists.intro _ (Exists.intro _ (And.intro (c_X1_clearPair hI hs  ) (And.intro rfl (fun r9 A9 h9 => ?_)))))))
  rcases h9 with ⟨v3, f3, rfl, hs3, rfl, by2⟩
  refine pq_id0 ?_
  have km1 : (-1 : Int32).toInt = -1 := rfl
  refine pq_iconst (pq_istore [some (.ref (q 4)), some (.ref (q o1)), some (.int x2), some (.int x3), some (.int (-1 : Int32)), none, none] rfl (pq_iconst (pq_istore [some (.ref (q 4)), some (.ref (q o1)), some (.int x2), some (.int x3), some (.int (-1 : Int32)), some (.int (-1 : Int32)), none] rfl ?_)))
  have k0 : (0 : Int32).toInt = 0 := rfl
  refine pq_iconst (pq_istore [some (.ref (q 4)), some (.ref (q o1)), some (.int x2), some (.int x3), some (.int (-1 : Int32)), some (.int (-1 : Int32)), some (.int (0 : Int32))] rfl (pq_nil ?_))
  have lp5 : ∀ (n : Nat) (z4_13 : Int32) (z5_13 : Int32) (z6_13 : Int32) (v4 : Nat → Int32) (f4 : Nat → Nat → Int32), cw_S v4 f4 → (0 ≤ z6_13.toInt ∧ z6_13.toInt ≤ 160) → 200 - z6_13.toInt < (n : Int) → J 13 [some (.ref (q 4)), some (.ref (q o1)), some (.int x2), some (.int x3), some (.int z4_13), some (.int z5_13), some (.int z6_13)] [] (cw A0 g K nn dn q w e v4 f4) 0 0 := by
    intro n
    induction n with
    | zero =>
      intro z4_13 z5_13 z6_13 v4 f4 hs4 j0_13 j1_13
      omega
    | succ n ih6 =>
      intro z4_13 z5_13 z6_13 v4 f4 hs4 j0_13 j1_13
      refine hC.1 1 13 _ _ rfl _ _ _ _ _ ?_
      refine pq_iload6 (pq_aload_n1 (qgr_3 hI.1 ho1 ?_))
      have z7 := cw_sz hI ho1
      refine pq_icmp_ge ?_
      refine And.intro (fun c8 => ?_) (fun c8 => ?_)
      · skip
        refine hC.1 4 89 _ _ rfl _ _ _ _ _ ?_
        refine pq_ret ?_
        exact ⟨rfl, rfl, v4, f4, rfl, hs4, rfl, by exact True.intro⟩
      · skip
        refine pq_aload_n1 (qgr_0 hI.1 ho1 (pq_iload6 (qlc_r1 hI.1 ho1 (by omega) ?_)))
        have w9 := cw_col hI ho1 (z6_13).toInt.toNat
        refine pq_iload_n2 (pq_icmp_ne ?_)
        refine And.intro (fun c10 => ?_) (fun c10 => ?_)
        · skip
          have dc10 := pm_neI c10
          refine hC.1 2 54 _ _ rfl _ _ _ _ _ ?_
          refine pq_aload_n1 (qgr_0 hI.1 ho1 (pq_iload6 (qlc_r1 hI.1 ho1 (by omega) ?_)))
          have w11 := cw_col hI ho1 (z6_13).toInt.toNat
          refine pq_iload_n3 (pq_icmp_ne ?_)
          refine And.intro (fun c12 => ?_) (fun c12 => ?_)
          · skip
            have dc12 := pm_neI c12
            refine hC.1 3 83 _ _ rfl _ _ _ _ _ ?_
            have k1 : (1 : Int32).toInt = 1 := rfl
            refine pq_iinc (fun zm_9 => [some (.ref (q 4)), some (.ref (q o1)), some (.int x2), some (.int x3), some (.int z4_13), some (.int z5_13), some (.int zm_9)]) rfl (fun _ => rfl) ?_
            intro m13 em_83
            try have e13 : m13.toInt = (z6_13).toInt + (1) := by rw [em_83]; exact pm_addc _ _ (1) rfl (by omega) (by omega)
            refine pq_goto ?_
            exact ih6 z4_13 z5_13 m13 v4 f4 hs4 (by omega) (by omega)
          · skip
            have dc12 : ((e (o1 + 1) (z6_13).toInt.toNat)).toInt = (x3 : Int32).toInt := congrArg Int32.toInt c12
            refine pq_iload6 (pq_istore [some (.ref (q 4)), some (.ref (q o1)), some (.int x2), some (.int x3), some (.int z4_13), some (.int z6_13), some (.int z6_13)] rfl (pq_iload4 (pq_iconst (pq_icmp_eq ?_))))
            refine And.intro (fun c14 => ?_) (fun c14 => ?_)
            · skip
              have dc14 : (z4_13).toInt = ((-1 : Int32) : Int32).toInt := congrArg Int32.toInt c14
              refine hC.1 3 83 _ _ rfl _ _ _ _ _ ?_
              have k1 : (1 : Int32).toInt = 1 := rfl
              refine pq_iinc (fun zm_9 => [some (.ref (q 4)), some (.ref (q o1)), some (.int x2), some (.int x3), some (.int z4_13), some (.int z6_13), some (.int zm_9)]) rfl (fun _ => rfl) ?_
              intro m15 em_83
              try have e15 : m15.toInt = (z6_13).toInt + (1) := by rw [em_83]; exact pm_addc _ _ (1) rfl (by omega) (by omega)
              refine pq_goto ?_
              exact ih6 z4_13 z6_13 m15 v4 f4 hs4 (by omega) (by omega)
            · skip
              have dc14 := pm_neI c14
              refine pq_aload_n0 (pq_iload4 (pq_iload6 (pq_iv2_1 ?_)))
              refine And.intro (Exists.intro _ (cw_o4 hI.1)) (Exists.intro _ (Exists.intro _ (Exists.intro _ (Exists.intro _ (And.intro (c_X1_offerPair hI hs4 z4_13 z6_13 ) (And.intro rfl (fun r9 A9 h9 => ?_)))))))
              rcases h9 with ⟨v17, f17, rfl, hs17, rfl, by16⟩
              refine pq_id0 (pq_nil ?_)
              refine hC.1 3 83 _ _ rfl _ _ _ _ _ ?_
              have k1 : (1 : Int32).toInt = 1 := rfl
              refine pq_iinc (fun zm_9 => [some (.ref (q 4)), some (.ref (q o1)), some (.int x2), some (.int x3), some (.int z4_13), some (.int z6_13), some (.int zm_9)]) rfl (fun _ => rfl) ?_
              intro m18 em_83
              try have e18 : m18.toInt = (z6_13).toInt + (1) := by rw [em_83]; exact pm_addc _ _ (1) rfl (by omega) (by omega)
              refine pq_goto ?_
              exact ih6 z4_13 z6_13 m18 v17 f17 hs17 (by omega) (by omega)
        · skip
          have dc10 : ((e (o1 + 1) (z6_13).toInt.toNat)).toInt = (x2 : Int32).toInt := congrArg Int32.toInt c10
          refine pq_iload6 (pq_istore [some (.ref (q 4)), some (.ref (q o1)), some (.int x2), some (.int x3), some (.int z6_13), some (.int z5_13), some (.int z6_13)] rfl (pq_iload5 (pq_iconst (pq_icmp_eq ?_))))
          refine And.intro (fun c19 => ?_) (fun c19 => ?_)
          · skip
            have dc19 : (z5_13).toInt = ((-1 : Int32) : Int32).toInt := congrArg Int32.toInt c19
            refine hC.1 3 83 _ _ rfl _ _ _ _ _ ?_
            have k1 : (1 : Int32).toInt = 1 := rfl
            refine pq_iinc (fun zm_9 => [some (.ref (q 4)), some (.ref (q o1)), some (.int x2), some (.int x3), some (.int z6_13), some (.int z5_13), some (.int zm_9)]) rfl (fun _ => rfl) ?_
            intro m20 em_83
            try have e20 : m20.toInt = (z6_13).toInt + (1) := by rw [em_83]; exact pm_addc _ _ (1) rfl (by omega) (by omega)
            refine pq_goto ?_
            exact ih6 z6_13 z5_13 m20 v4 f4 hs4 (by omega) (by omega)
          · skip
            have dc19 := pm_neI c19
            refine pq_aload_n0 (pq_iload5 (pq_iload6 (pq_iv2_1 ?_)))
            refine And.intro (Exists.intro _ (cw_o4 hI.1)) (Exists.intro _ (Exists.intro _ (Exists.intro _ (Exists.intro _ (And.intro (c_X1_offerPair hI hs4 z5_13 z6_13 ) (And.intro rfl (fun r9 A9 h9 => ?_)))))))
            rcases h9 with ⟨v22, f22, rfl, hs22, rfl, by21⟩
            refine pq_id0 (pq_goto ?_)
            refine hC.1 3 83 _ _ rfl _ _ _ _ _ ?_
            have k1 : (1 : Int32).toInt = 1 := rfl
            refine pq_iinc (fun zm_9 => [some (.ref (q 4)), some (.ref (q o1)), some (.int x2), some (.int x3), some (.int z6_13), some (.int z5_13), some (.int zm_9)]) rfl (fun _ => rfl) ?_
            intro m23 em_83
            try have e23 : m23.toInt = (z6_13).toInt + (1) := by rw [em_83]; exact pm_addc _ _ (1) rfl (by omega) (by omega)
            refine pq_goto ?_
            exact ih6 z6_13 z5_13 m23 v22 f22 hs22 (by omega) (by omega)
  exact lp5 (200 - (0 : Int32).toInt).toNat.succ (-1 : Int32) (-1 : Int32) (0 : Int32) v3 f3 hs3 (by omega) (by omega)

end
end
section
section
variable {l : Launch} {g : pm_G} {A0 : pm_H} {K nn dn : Nat} {q : Nat → Nat} {w : Nat → Int32} {e : Nat → Nat → Int32} {v : Nat → Int32} {f : Nat → Nat → Int32}
set_option maxRecDepth 100000 in
set_option maxHeartbeats 2000000 in
theorem c_X1_unlikeTwos (hI : cw_I K nn dn q w e) (hs : cw_S v f) {o1 : Nat} (ho1 : cw_ro K o1) (x2 : Int32) (x3 : Int32) (p0 : 0 ≤ x2.toInt ∧ x2.toInt ≤ x3.toInt ∧ x3.toInt < (w o1).toInt) : pm_Mt l g 86 1 0 0 [.ref (q 4), .ref (q o1), .int x2, .int x3] (cw A0 g K nn dn q w e v f) (cw_Qs A0 g K nn dn q w e (fun r v2 f2 => ∃ x : Int32, r = some (.int x) ∧ (True))) := by
  refine mt_X1_unlikeTwos rfl (fun J hC => ?_)
  have ro_nn : cw_ro K nn := hI.2.1.2.1
  have ro_dn : cw_ro K dn := hI.2.1.2.2.1
  have hu1 := hI.2.1
  unfold cw_W at hu1
  have rg_x2 := pm_rng x2
  have rg_x3 := pm_rng x3
  have zz0 := cw_sz hI ho1
  show J 0 [some (.ref (q 4)), some (.ref (q o1)), some (.int x2), some (.int x3), none, none, none, none] [] (cw A0 g K nn dn q w e v f) 0 0
  refine hC.1 0 0 _ _ rfl _ _ _ _ _ ?_
  refine pq_aload_n0 (qgc_4_2 hI.1 ?_)
  have k0 : (0 : Int32).toInt = 0 := rfl
  refine pq_iconst (pq_is2 ?_)
  refine Exists.intro _ (Exists.intro _ (Exists.intro _ (Exists.intro _ (And.intro (c_fill (cw_a20 hI.1) (by decide) (0 : Int32)) (And.intro rfl (fun r9 A9 h9 => ?_))))))
  obtain ⟨rfl, rfl⟩ := h9
  rw [cw_s20 hI.1]
  obtain ⟨f2, ef2⟩ : ∃ z9, z9 = va_up f 20 (fun j => if j < 24 then (0 : Int32) else f 20 j) := ⟨_, rfl⟩
  rw [← ef2]
  have hs2 : cw_S v f2 := by rw [ef2]; exact cw_S_fr hs _ _ (by decide) (by decide)
  refine pq_id0 (pq_iconst (pq_istore [some (.ref (q 4)), some (.ref (q o1)), some (.int x2), some (.int x3), some (.int (0 : Int32)), none, none, none] rfl (pq_iload_n2 ?_)))
  have k1 : (1 : Int32).toInt = 1 := rfl
  refine pq_iconst (pq_iadd ?_)
  intro m3 em_13
  try have e3 : m3.toInt = (x2).toInt + (1) := by rw [em_13]; exact pm_addc _ _ (1) rfl (by omega) (by omega)
  refine pq_istore [some (.ref (q 4)), some (.ref (q o1)), some (.int x2), some (.int x3), some (.int (0 : Int32)), some (.int m3), none, none] rfl (pq_nil ?_)
  have lp5 : ∀ (n : Nat) (z4_16 : Int32) (z5_16 : Int32) (v4 : Nat → Int32) (f4 : Nat → Nat → Int32), cw_S v4 f4 → (x2.toInt + 1 ≤ z5_16.toInt ∧ z5_16.toInt ≤ x3.toInt + 1) → 200 - z5_16.toInt < (n : Int) → J 16 [some (.ref (q 4)), some (.ref (q o1)), some (.int x2), some (.int x3), some (.int z4_16), some (.int z5_16), none, none] [] (cw A0 g K nn dn q w e v4 f4) 0 0 := by
    intro n
    induction n with
    | zero =>
      intro z4_16 z5_16 v4 f4 hs4 j0_16 j1_16
      omega
    | succ n ih6 =>
      intro z4_16 z5_16 v4 f4 hs4 j0_16 j1_16
      refine hC.1 1 16 _ _ rfl _ _ _ _ _ ?_
      refine pq_iload5 (pq_iload_n3 (pq_icmp_gt ?_))
      refine And.intro (fun c7 => ?_) (fun c7 => ?_)
      · skip
        refine hC.1 3 109 _ _ rfl _ _ _ _ _ ?_
        refine pq_iload4 (pq_iret ?_)
        exact ⟨rfl, fun e9 => absurd e9 (by decide), rfl, v4, f4, rfl, hs4, z4_16, rfl, by exact True.intro⟩
      · skip
        refine pq_aload_n1 (qgr_0 hI.1 ho1 (pq_iload5 (pq_iconst (pq_isub ?_))))
        intro m8 em_29
        try have e8 : m8.toInt = (z5_16).toInt - (1) := by rw [em_29]; exact pm_subc _ _ (1) rfl (by omega) (by omega)
        refine qlc_r1 hI.1 ho1 (by omega) ?_
        have w9 := cw_col hI ho1 (m8).toInt.toNat
        refine pq_aload_n1 (qgr_0 hI.1 ho1 (pq_iload5 (qlc_r1 hI.1 ho1 (by omega) ?_)))
        have w10 := cw_col hI ho1 (z5_16).toInt.toNat
        refine pq_is2 ?_
        refine Exists.intro _ (Exists.intro _ (Exists.intro _ (Exists.intro _ (And.intro (c_J9_min_7cf53 (cw A0 g K nn dn q w e v4 f4) (e (o1 + 1) (m8).toInt.toNat) (e (o1 + 1) (z5_16).toInt.toNat) ) (And.intro rfl (fun r9 A9 h9 => ?_))))))
        obtain ⟨y11, rfl, rfl, by11⟩ := h9
        refine pq_id1 (pq_istore [some (.ref (q 4)), some (.ref (q o1)), some (.int x2), some (.int x3), some (.int z4_16), some (.int z5_16), some (.int y11), none] rfl (pq_aload_n1 (qgr_0 hI.1 ho1 (pq_iload5 (pq_iconst (pq_isub ?_))))))
        intro m13 em_50
        try have e13 : m13.toInt = (z5_16).toInt - (1) := by rw [em_50]; exact pm_subc _ _ (1) rfl (by omega) (by omega)
        refine qlc_r1 hI.1 ho1 (by omega) ?_
        have w14 := cw_col hI ho1 (m13).toInt.toNat
        refine pq_aload_n1 (qgr_0 hI.1 ho1 (pq_iload5 (qlc_r1 hI.1 ho1 (by omega) ?_)))
        have w15 := cw_col hI ho1 (z5_16).toInt.toNat
        refine pq_is2 ?_
        refine Exists.intro _ (Exists.intro _ (Exists.intro _ (Exists.intro _ (And.intro (c_J9_max_7cf53 (cw A0 g K nn dn q w e v4 f4) (e (o1 + 1) (m13).toInt.toNat) (e (o1 + 1) (z5_16).toInt.toNat) ) (And.intro rfl (fun r9 A9 h9 => ?_))))))
        obtain ⟨y16, rfl, rfl, by16⟩ := h9
        refine pq_id1 (pq_istore [some (.ref (q 4)), some (.ref (q o1)), some (.int x2), some (.int x3), some (.int z4_16), some (.int z5_16), some (.int y11), some (.int y16)] rfl (pq_iload6 (pq_iload7 (pq_icmp_eq ?_))))
        refine And.intro (fun c18 => ?_) (fun c18 => ?_)
        · skip
          have dc18 : (y11).toInt = (y16 : Int32).toInt := congrArg Int32.toInt c18
          refine hC.1 2 103 _ _ rfl _ _ _ _ _ ?_
          refine pq_iinc (fun zm_9 => [some (.ref (q 4)), some (.ref (q o1)), some (.int x2), some (.int x3), some (.int z4_16), some (.int zm_9), some (.int y11), some (.int y16)]) rfl (fun _ => rfl) ?_
          intro m19 em_103
          try have e19 : m19.toInt = (z5_16).toInt + (1) := by rw [em_103]; exact pm_addc _ _ (1) rfl (by omega) (by omega)
          refine pq_goto ?_
          exact hC.2 [false, false, false, false, false, false, true, true] _ _ _ _ _ _ (ih6 z4_16 m19 v4 f4 hs4 (by omega) (by omega))
        · skip
          have dc18 := pm_neI c18
          refine pq_aload_n0 (qgc_4_2 hI.1 (pq_iload6 (qlc_20 hI.1 (by omega) (pq_iconst (pq_iload7 (pq_ishl (pq_iand (pq_icond_ne ?_))))))))
          refine And.intro (fun c20 => ?_) (fun c20 => ?_)
          · skip
            have dc20 := pm_neI c20
            refine hC.1 2 103 _ _ rfl _ _ _ _ _ ?_
            refine pq_iinc (fun zm_9 => [some (.ref (q 4)), some (.ref (q o1)), some (.int x2), some (.int x3), some (.int z4_16), some (.int zm_9), some (.int y11), some (.int y16)]) rfl (fun _ => rfl) ?_
            intro m21 em_103
            try have e21 : m21.toInt = (z5_16).toInt + (1) := by rw [em_103]; exact pm_addc _ _ (1) rfl (by omega) (by omega)
            refine pq_goto ?_
            exact hC.2 [false, false, false, false, false, false, true, true] _ _ _ _ _ _ (ih6 z4_16 m21 v4 f4 hs4 (by omega) (by omega))
          · skip
            have dc20 : (((f4 20 (y11).toInt.toNat) &&& ((1 : Int32) <<< (y16 &&& 31)))).toInt = (0 : Int32).toInt := congrArg Int32.toInt c20
            refine pq_aload_n0 (qgc_4_2 hI.1 (pq_iload6 (pq_dup2 (qlc_20 hI.1 (by omega) (pq_iconst (pq_iload7 (pq_ishl (pq_ior ?_))))))))
            refine qsc_20 hI.1 (by omega) (fun f22 ef22 => ?_)
            have hs22 : cw_S v4 f22 := by rw [ef22]; exact cw_S_fr hs4 _ _ (by decide) (by decide)
            refine pq_iinc (fun zm_9 => [some (.ref (q 4)), some (.ref (q o1)), some (.int x2), some (.int x3), some (.int zm_9), some (.int z5_16), some (.int y11), some (.int y16)]) rfl (fun _ => rfl) ?_
            intro m23 em_100
            try have e23 : m23.toInt = (z4_16).toInt + (1) := by rw [em_100]; exact pm_addc _ _ (1) rfl (by omega) (by omega)
            refine pq_nil ?_
            refine hC.1 2 103 _ _ rfl _ _ _ _ _ ?_
            refine pq_iinc (fun zm_9 => [some (.ref (q 4)), some (.ref (q o1)), some (.int x2), some (.int x3), some (.int m23), some (.int zm_9), some (.int y11), some (.int y16)]) rfl (fun _ => rfl) ?_
            intro m24 em_103
            try have e24 : m24.toInt = (z5_16).toInt + (1) := by rw [em_103]; exact pm_addc _ _ (1) rfl (by omega) (by omega)
            refine pq_goto ?_
            exact hC.2 [false, false, false, false, false, false, true, true] _ _ _ _ _ _ (ih6 m23 m24 v4 f22 hs22 (by omega) (by omega))
  exact lp5 (200 - m3.toInt).toNat.succ (0 : Int32) m3 v f2 hs2 (by omega) (by omega)

set_option maxRecDepth 100000 in
set_option maxHeartbeats 2000000 in
theorem c_X1_coveringLength (hI : cw_I K nn dn q w e) (hs : cw_S v f) {o1 : Nat} (ho1 : cw_ro K o1) (x3 : Int32) (x4 : Int32) (p0 : 0 ≤ x3.toInt ∧ x3.toInt ≤ x4.toInt ∧ x4.toInt < (w o1).toInt) : pm_Mt l g 89 3 0 0 [.ref (q 4), .ref (q o1), .ref (q 2), .int x3, .int x4] (cw A0 g K nn dn q w e v f) (cw_Qs A0 g K nn dn q w e (fun r v2 f2 => ∃ x : Int32, r = some (.int x) ∧ (True))) := by
  refine mt_X1_coveringLength rfl (fun J hC => ?_)
  have ro_nn : cw_ro K nn := hI.2.1.2.1
  have ro_dn : cw_ro K dn := hI.2.1.2.2.1
  have hu1 := hI.2.1
  unfold cw_W at hu1
  have rg_x3 := pm_rng x3
  have rg_x4 := pm_rng x4
  have zz0 := cw_sz hI ho1
  show J 0 [some (.ref (q 4)), some (.ref (q o1)), some (.ref (q 2)), some (.int x3), some (.int x4), none, none, none] [] (cw A0 g K nn dn q w e v f) 0 0
  refine hC.1 0 0 _ _ rfl _ _ _ _ _ ?_
  refine pq_aload_n2 (pq_aload_n1 (pq_iload_n3 (pq_iload4 (pq_iv3_2 ?_))))
  refine And.intro (Exists.intro _ (cw_o2 hI.1)) (Exists.intro _ (Exists.intro _ (Exists.intro _ (Exists.intro _ (And.intro (c_X2_read hI hs ho1 x3 x4 ) (And.intro rfl (fun r9 A9 h9 => ?_)))))))
  rcases h9 with ⟨v3, f3, rfl, hs3, rfl, by2⟩
  refine pq_id0 (pq_aload_n0 (qgc_4_1 hI.1 (pq_iload_n3 ?_)))
  have k1 : (1 : Int32).toInt = 1 := rfl
  refine pq_iconst (pq_isub ?_)
  intro m4 em_14
  try have e4 : m4.toInt = (x3).toInt - (1) := by rw [em_14]; exact pm_subc _ _ (1) rfl (by omega) (by omega)
  refine pq_is2 ?_
  refine Exists.intro _ (Exists.intro _ (Exists.intro _ (Exists.intro _ (And.intro (c_fill (cw_a19 hI.1) (by decide) m4) (And.intro rfl (fun r9 A9 h9 => ?_))))))
  obtain ⟨rfl, rfl⟩ := h9
  rw [cw_s19 hI.1]
  obtain ⟨f5, ef5⟩ : ∃ z9, z9 = va_up f3 19 (fun j => if j < 24 then m4 else f3 19 j) := ⟨_, rfl⟩
  rw [← ef5]
  have hs5 : cw_S v3 f5 := by rw [ef5]; exact cw_S_fr hs3 _ _ (by decide) (by decide)
  refine pq_id0 (pq_iconst (pq_istore [some (.ref (q 4)), some (.ref (q o1)), some (.ref (q 2)), some (.int x3), some (.int x4), some (.int (1 : Int32)), none, none] rfl (pq_iload_n3 (pq_istore [some (.ref (q 4)), some (.ref (q o1)), some (.ref (q 2)), some (.int x3), some (.int x4), some (.int (1 : Int32)), some (.int x3), none] rfl (pq_nil ?_)))))
  have lp7 : ∀ (n : Nat) (z5_24 : Int32) (z6_24 : Int32) (v6 : Nat → Int32) (f6 : Nat → Nat → Int32), cw_S v6 f6 → (x3.toInt ≤ z6_24.toInt ∧ z6_24.toInt ≤ x4.toInt + 1) → 200 - z6_24.toInt < (n : Int) → J 24 [some (.ref (q 4)), some (.ref (q o1)), some (.ref (q 2)), some (.int x3), some (.int x4), some (.int z5_24), some (.int z6_24), none] [] (cw A0 g K nn dn q w e v6 f6) 0 0 := by
    intro n
    induction n with
    | zero =>
      intro z5_24 z6_24 v6 f6 hs6 j0_24 j1_24
      omega
    | succ n ih8 =>
      intro z5_24 z6_24 v6 f6 hs6 j0_24 j1_24
      refine hC.1 1 24 _ _ rfl _ _ _ _ _ ?_
      refine pq_iload6 (pq_iload4 (pq_icmp_gt ?_))
      refine And.intro (fun c9 => ?_) (fun c9 => ?_)
      · skip
        refine hC.1 2 72 _ _ rfl _ _ _ _ _ ?_
        have k0 : (0 : Int32).toInt = 0 := rfl
        refine pq_iconst (pq_istore [some (.ref (q 4)), some (.ref (q o1)), some (.ref (q 2)), some (.int x3), some (.int x4), some (.int z5_24), some (.int (0 : Int32)), none] rfl (pq_nil ?_))
        have lp11 : ∀ (n : Nat) (z5_75 : Int32) (z6_75 : Int32), (0 ≤ z6_75.toInt ∧ z6_75.toInt ≤ 24) → 200 - z6_75.toInt < (n : Int) → J 75 [some (.ref (q 4)), some (.ref (q o1)), some (.ref (q 2)), some (.int x3), some (.int x4), some (.int z5_75), some (.int z6_75), none] [] (cw A0 g K nn dn q w e v6 f6) 0 0 := by
          intro n
          induction n with
          | zero =>
            intro z5_75 z6_75 j0_75 j1_75
            omega
          | succ n ih12 =>
            intro z5_75 z6_75 j0_75 j1_75
            refine hC.1 3 75 _ _ rfl _ _ _ _ _ ?_
            refine pq_iload6 ?_
            have k24 : (24 : Int32).toInt = 24 := rfl
            refine pq_bipush (pq_icmp_ge ?_)
            refine And.intro (fun c13 => ?_) (fun c13 => ?_)
            · skip
              refine hC.1 5 117 _ _ rfl _ _ _ _ _ ?_
              refine pq_iload5 (pq_iret ?_)
              exact ⟨rfl, fun e9 => absurd e9 (by decide), rfl, v6, f6, rfl, hs6, z5_75, rfl, by exact True.intro⟩
            · skip
              refine pq_aload_n2 (qgc_2_0 hI.1 (pq_iload6 (qlc_14 hI.1 (by omega) (pq_icond_le ?_))))
              refine And.intro (fun c14 => ?_) (fun c14 => ?_)
              · skip
                refine hC.1 4 111 _ _ rfl _ _ _ _ _ ?_
                refine pq_iinc (fun zm_9 => [some (.ref (q 4)), some (.ref (q o1)), some (.ref (q 2)), some (.int x3), some (.int x4), some (.int z5_75), some (.int zm_9), none]) rfl (fun _ => rfl) ?_
                intro m15 em_111
                try have e15 : m15.toInt = (z6_75).toInt + (1) := by rw [em_111]; exact pm_addc _ _ (1) rfl (by omega) (by omega)
                refine pq_goto ?_
                exact ih12 z5_75 m15 (by omega) (by omega)
              · skip
                refine pq_iload5 (pq_iload4 (pq_iconst (pq_iadd ?_)))
                intro m16 em_97
                try have e16 : m16.toInt = (x4).toInt + (1) := by rw [em_97]; exact pm_addc _ _ (1) rfl (by omega) (by omega)
                refine pq_aload_n0 (qgc_4_1 hI.1 (pq_iload6 (qlc_19 hI.1 (by omega) (pq_isub ?_))))
                intro m17 em_105
                try have e17 : m17.toInt = (m16).toInt - ((f6 19 (z6_75).toInt.toNat)).toInt := by rw [em_105]; exact pm_sub _ _ (by omega) (by omega)
                refine pq_is2 ?_
                refine Exists.intro _ (Exists.intro _ (Exists.intro _ (Exists.intro _ (And.intro (c_J9_max_7cf53 (cw A0 g K nn dn q w e v6 f6) z5_75 m17 ) (And.intro rfl (fun r9 A9 h9 => ?_))))))
                obtain ⟨y18, rfl, rfl, by18⟩ := h9
                refine pq_id1 (pq_istore [some (.ref (q 4)), some (.ref (q o1)), some (.ref (q 2)), some (.int x3), some (.int x4), some (.int y18), some (.int z6_75), none] rfl (pq_nil ?_))
                refine hC.1 4 111 _ _ rfl _ _ _ _ _ ?_
                refine pq_iinc (fun zm_9 => [some (.ref (q 4)), some (.ref (q o1)), some (.ref (q 2)), some (.int x3), some (.int x4), some (.int y18), some (.int zm_9), none]) rfl (fun _ => rfl) ?_
                intro m20 em_111
                try have e20 : m20.toInt = (z6_75).toInt + (1) := by rw [em_111]; exact pm_addc _ _ (1) rfl (by omega) (by omega)
                refine pq_goto ?_
                exact ih12 y18 m20 (by omega) (by omega)
        exact lp11 (200 - (0 : Int32).toInt).toNat.succ z5_24 (0 : Int32) (by omega) (by omega)
      · skip
        refine pq_aload_n1 (qgr_0 hI.1 ho1 (pq_iload6 (qlc_r1 hI.1 ho1 (by omega) ?_)))
        have w21 := cw_col hI ho1 (z6_24).toInt.toNat
        refine pq_istore [some (.ref (q 4)), some (.ref (q o1)), some (.ref (q 2)), some (.int x3), some (.int x4), some (.int z5_24), some (.int z6_24), some (.int (e (o1 + 1) (z6_24).toInt.toNat))] rfl (pq_iload5 (pq_iload6 (pq_aload_n0 (qgc_4_1 hI.1 (pq_iload7 (qlc_19 hI.1 (by omega) (pq_isub ?_)))))))
        intro m22 em_51
        try have e22 : m22.toInt = (z6_24).toInt - ((f6 19 ((e (o1 + 1) (z6_24).toInt.toNat)).toInt.toNat)).toInt := by rw [em_51]; exact pm_sub _ _ (by omega) (by omega)
        refine pq_is2 ?_
        refine Exists.intro _ (Exists.intro _ (Exists.intro _ (Exists.intro _ (And.intro (c_J9_max_7cf53 (cw A0 g K nn dn q w e v6 f6) z5_24 m22 ) (And.intro rfl (fun r9 A9 h9 => ?_))))))
        obtain ⟨y23, rfl, rfl, by23⟩ := h9
        refine pq_id1 (pq_istore [some (.ref (q 4)), some (.ref (q o1)), some (.ref (q 2)), some (.int x3), some (.int x4), some (.int y23), some (.int z6_24), some (.int (e (o1 + 1) (z6_24).toInt.toNat))] rfl (pq_aload_n0 (qgc_4_1 hI.1 (pq_iload7 (pq_iload6 ?_)))))
        refine qsc_19 hI.1 (by omega) (fun f25 ef25 => ?_)
        have hs25 : cw_S v6 f25 := by rw [ef25]; exact cw_S_fr hs6 _ _ (by decide) (by decide)
        refine pq_iinc (fun zm_9 => [some (.ref (q 4)), some (.ref (q o1)), some (.ref (q 2)), some (.int x3), some (.int x4), some (.int y23), some (.int zm_9), some (.int (e (o1 + 1) (z6_24).toInt.toNat))]) rfl (fun _ => rfl) ?_
        intro m26 em_66
        try have e26 : m26.toInt = (z6_24).toInt + (1) := by rw [em_66]; exact pm_addc _ _ (1) rfl (by omega) (by omega)
        refine pq_goto ?_
        exact hC.2 [false, false, false, false, false, false, false, true] _ _ _ _ _ _ (ih8 y23 m26 v6 f25 hs25 (by omega) (by omega))
  exact lp7 (200 - x3.toInt).toNat.succ (1 : Int32) x3 v3 f5 hs5 (by omega) (by omega)

set_option maxRecDepth 100000 in
set_option maxHeartbeats 2000000 in
theorem c_X1_evenestEnd (hI : cw_I K nn dn q w e) (hs : cw_S v f) {o1 : Nat} (ho1 : cw_ro K o1) (x3 : Int32) (x4 : Int32) (p0 : 0 ≤ x3.toInt ∧ x3.toInt ≤ x4.toInt ∧ x4.toInt < (w o1).toInt) : pm_Mt l g 97 2 0 0 [.ref (q 4), .ref (q o1), .ref (q 2), .int x3, .int x4] (cw A0 g K nn dn q w e v f) (cw_Qs A0 g K nn dn q w e (fun r v2 f2 => ∃ x : Int32, r = some (.int x) ∧ (True))) := by
  refine mt_X1_evenestEnd rfl (fun J hC => ?_)
  have ro_nn : cw_ro K nn := hI.2.1.2.1
  have ro_dn : cw_ro K dn := hI.2.1.2.2.1
  have hu1 := hI.2.1
  unfold cw_W at hu1
  have rg_x3 := pm_rng x3
  have rg_x4 := pm_rng x4
  have zz0 := cw_sz hI ho1
  show J 0 [some (.ref (q 4)), some (.ref (q o1)), some (.ref (q 2)), some (.int x3), some (.int x4), none, none, none, none] [] (cw A0 g K nn dn q w e v f) 0 0
  refine hC.1 0 0 _ _ rfl _ _ _ _ _ ?_
  refine pq_aload_n2 (pq_iv0_2 ?_)
  refine And.intro (Exists.intro _ (cw_o2 hI.1)) (Exists.intro _ (Exists.intro _ (Exists.intro _ (Exists.intro _ (And.intro (c_X2_clear hI hs  ) (And.intro rfl (fun r9 A9 h9 => ?_)))))))
  rcases h9 with ⟨v3, f3, rfl, hs3, rfl, by2⟩
  refine pq_id0 (pq_iload_n3 (pq_istore [some (.ref (q 4)), some (.ref (q o1)), some (.ref (q 2)), some (.int x3), some (.int x4), some (.int x3), none, none, none] rfl (pq_nil ?_)))
  have lp5 : ∀ (n : Nat) (z5_7 : Int32) (v4 : Nat → Int32) (f4 : Nat → Nat → Int32), cw_S v4 f4 → (x3.toInt ≤ z5_7.toInt ∧ z5_7.toInt ≤ x4.toInt + 1) → 200 - z5_7.toInt < (n : Int) → J 7 [some (.ref (q 4)), some (.ref (q o1)), some (.ref (q 2)), some (.int x3), some (.int x4), some (.int z5_7), none, none, none] [] (cw A0 g K nn dn q w e v4 f4) 0 0 := by
    intro n
    induction n with
    | zero =>
      intro z5_7 v4 f4 hs4 j0_7 j1_7
      omega
    | succ n ih6 =>
      intro z5_7 v4 f4 hs4 j0_7 j1_7
      refine hC.1 1 7 _ _ rfl _ _ _ _ _ ?_
      refine pq_iload5 (pq_iload4 (pq_icmp_gt ?_))
      refine And.intro (fun c7 => ?_) (fun c7 => ?_)
      · skip
        refine hC.1 2 42 _ _ rfl _ _ _ _ _ ?_
        refine pq_aload_n2 (pq_iv0_2 ?_)
        refine And.intro (Exists.intro _ (cw_o2 hI.1)) (Exists.intro _ (Exists.intro _ (Exists.intro _ (Exists.intro _ (And.intro (c_X2_clear hI hs4  ) (And.intro rfl (fun r9 A9 h9 => ?_)))))))
        rcases h9 with ⟨v9, f9, rfl, hs9, rfl, by8⟩
        refine pq_id0 ?_
        have km1 : (-1 : Int32).toInt = -1 := rfl
        refine pq_iconst (pq_istore [some (.ref (q 4)), some (.ref (q o1)), some (.ref (q 2)), some (.int x3), some (.int x4), some (.int (-1 : Int32)), none, none, none] rfl ?_)
        have k25 : (25 : Int32).toInt = 25 := rfl
        refine pq_bipush (pq_istore [some (.ref (q 4)), some (.ref (q o1)), some (.ref (q 2)), some (.int x3), some (.int x4), some (.int (-1 : Int32)), some (.int (25 : Int32)), none, none] rfl (pq_iload4 ?_))
        have k1 : (1 : Int32).toInt = 1 := rfl
        refine pq_iconst (pq_isub ?_)
        intro m10 em_56
        try have e10 : m10.toInt = (x4).toInt - (1) := by rw [em_56]; exact pm_subc _ _ (1) rfl (by omega) (by omega)
        refine pq_istore [some (.ref (q 4)), some (.ref (q o1)), some (.ref (q 2)), some (.int x3), some (.int x4), some (.int (-1 : Int32)), some (.int (25 : Int32)), some (.int m10), none] rfl (pq_nil ?_)
        have lp12 : ∀ (n : Nat) (z5_59 : Int32) (z6_59 : Int32) (z7_59 : Int32) (v11 : Nat → Int32) (f11 : Nat → Nat → Int32), cw_S v11 f11 → (x3.toInt - 1 ≤ z7_59.toInt ∧ z7_59.toInt ≤ x4.toInt - 1) → z7_59.toInt + 1 < (n : Int) → J 59 [some (.ref (q 4)), some (.ref (q o1)), some (.ref (q 2)), some (.int x3), some (.int x4), some (.int z5_59), some (.int z6_59), some (.int z7_59), none] [] (cw A0 g K nn dn q w e v11 f11) 0 0 := by
          intro n
          induction n with
          | zero =>
            intro z5_59 z6_59 z7_59 v11 f11 hs11 j0_59 j1_59
            omega
          | succ n ih13 =>
            intro z5_59 z6_59 z7_59 v11 f11 hs11 j0_59 j1_59
            refine hC.1 3 59 _ _ rfl _ _ _ _ _ ?_
            refine pq_iload7 (pq_iload_n3 (pq_icmp_lt ?_))
            refine And.intro (fun c14 => ?_) (fun c14 => ?_)
            · skip
              refine hC.1 5 116 _ _ rfl _ _ _ _ _ ?_
              refine pq_iload5 (pq_iret ?_)
              exact ⟨rfl, fun e9 => absurd e9 (by decide), rfl, v11, f11, rfl, hs11, z5_59, rfl, by exact True.intro⟩
            · skip
              refine pq_aload_n2 (pq_aload_n1 (qgr_0 hI.1 ho1 (pq_iload7 (pq_iconst (pq_iadd ?_)))))
              intro m15 em_73
              try have e15 : m15.toInt = (z7_59).toInt + (1) := by rw [em_73]; exact pm_addc _ _ (1) rfl (by omega) (by omega)
              refine qlc_r1 hI.1 ho1 (by omega) ?_
              have w16 := cw_col hI ho1 (m15).toInt.toNat
              refine pq_iv1_2 ?_
              refine And.intro (Exists.intro _ (cw_o2 hI.1)) (Exists.intro _ (Exists.intro _ (Exists.intro _ (Exists.intro _ (And.intro (c_X2_take hI hs11 (e (o1 + 1) (m15).toInt.toNat) (by omega)) (And.intro rfl (fun r9 A9 h9 => ?_)))))))
              rcases h9 with ⟨v18, f18, rfl, hs18, rfl, by17⟩
              refine pq_id0 (pq_aload_n0 (qgc_4_0 hI.1 (pq_iload7 (qlc_18 hI.1 (by omega) (pq_aload_n2 (qgc_2_3 hI.1 (pq_isub ?_)))))))
              intro m19 em_89
              try have e19 : m19.toInt = ((f18 18 (z7_59).toInt.toNat)).toInt - ((v18 2)).toInt := by rw [em_89]; exact pm_sub _ _ (by omega) (by omega)
              refine pq_is1 ?_
              refine Exists.intro _ (Exists.intro _ (Exists.intro _ (Exists.intro _ (And.intro (c_J9_abs_0f7a4 (cw A0 g K nn dn q w e v18 f18) m19 ) (And.intro rfl (fun r9 A9 h9 => ?_))))))
              obtain ⟨y20, rfl, rfl, by20⟩ := h9
              refine pq_id1 (pq_istore [some (.ref (q 4)), some (.ref (q o1)), some (.ref (q 2)), some (.int x3), some (.int x4), some (.int z5_59), some (.int z6_59), some (.int z7_59), some (.int y20)] rfl (pq_iload8 (pq_iload6 (pq_icmp_gt ?_))))
              refine And.intro (fun c22 => ?_) (fun c22 => ?_)
              · skip
                refine hC.1 4 110 _ _ rfl _ _ _ _ _ ?_
                refine pq_iinc (fun zm_9 => [some (.ref (q 4)), some (.ref (q o1)), some (.ref (q 2)), some (.int x3), some (.int x4), some (.int z5_59), some (.int z6_59), some (.int zm_9), some (.int y20)]) rfl (fun _ => rfl) ?_
                intro m23 em_110
                try have e23 : m23.toInt = (z7_59).toInt + (-1) := by rw [em_110]; exact pm_addc _ _ (-1) rfl (by omega) (by omega)
                refine pq_goto ?_
                exact hC.2 [false, false, false, false, false, false, false, false, true] _ _ _ _ _ _ (ih13 z5_59 z6_59 m23 v18 f18 hs18 (by omega) (by omega))
              · skip
                refine pq_iload8 (pq_istore [some (.ref (q 4)), some (.ref (q o1)), some (.ref (q 2)), some (.int x3), some (.int x4), some (.int z5_59), some (.int y20), some (.int z7_59), some (.int y20)] rfl (pq_iload7 (pq_istore [some (.ref (q 4)), some (.ref (q o1)), some (.ref (q 2)), some (.int x3), some (.int x4), some (.int z7_59), some (.int y20), some (.int z7_59), some (.int y20)] rfl (pq_nil ?_))))
                refine hC.1 4 110 _ _ rfl _ _ _ _ _ ?_
                refine pq_iinc (fun zm_9 => [some (.ref (q 4)), some (.ref (q o1)), some (.ref (q 2)), some (.int x3), some (.int x4), some (.int z7_59), some (.int y20), some (.int zm_9), some (.int y20)]) rfl (fun _ => rfl) ?_
                intro m24 em_110
                try have e24 : m24.toInt = (z7_59).toInt + (-1) := by rw [em_110]; exact pm_addc _ _ (-1) rfl (by omega) (by omega)
                refine pq_goto ?_
                exact hC.2 [false, false, false, false, false, false, false, false, true] _ _ _ _ _ _ (ih13 z7_59 y20 m24 v18 f18 hs18 (by omega) (by omega))
        exact lp12 (m10.toInt + 1).toNat.succ (-1 : Int32) (25 : Int32) m10 v9 f9 hs9 (by omega) (by omega)
      · skip
        refine pq_aload_n2 (pq_aload_n1 (qgr_0 hI.1 ho1 (pq_iload5 (qlc_r1 hI.1 ho1 (by omega) ?_))))
        have w25 := cw_col hI ho1 (z5_7).toInt.toNat
        refine pq_iv1_2 ?_
        refine And.intro (Exists.intro _ (cw_o2 hI.1)) (Exists.intro _ (Exists.intro _ (Exists.intro _ (Exists.intro _ (And.intro (c_X2_take hI hs4 (e (o1 + 1) (z5_7).toInt.toNat) (by omega)) (And.intro rfl (fun r9 A9 h9 => ?_)))))))
        rcases h9 with ⟨v27, f27, rfl, hs27, rfl, by26⟩
        refine pq_id0 (pq_aload_n0 (qgc_4_0 hI.1 (pq_iload5 (pq_aload_n2 (qgc_2_3 hI.1 ?_)))))
        refine qsc_18 hI.1 (by omega) (fun f28 ef28 => ?_)
        have hs28 : cw_S v27 f28 := by rw [ef28]; exact cw_S_fr hs27 _ _ (by decide) (by decide)
        have k1 : (1 : Int32).toInt = 1 := rfl
        refine pq_iinc (fun zm_9 => [some (.ref (q 4)), some (.ref (q o1)), some (.ref (q 2)), some (.int x3), some (.int x4), some (.int zm_9), none, none, none]) rfl (fun _ => rfl) ?_
        intro m29 em_36
        try have e29 : m29.toInt = (z5_7).toInt + (1) := by rw [em_36]; exact pm_addc _ _ (1) rfl (by omega) (by omega)
        refine pq_goto ?_
        exact ih6 m29 v27 f28 hs28 (by omega) (by omega)
  exact lp5 (200 - x3.toInt).toNat.succ x3 v3 f3 hs3 (by omega) (by omega)

set_option maxRecDepth 100000 in
set_option maxHeartbeats 2000000 in
theorem c_X6_endFound (hI : cw_I K nn dn q w e) (hs : cw_S v f) (x1 : Int32)  : pm_Mt l g 110 0 0 0 [.ref (q 5), .int x1] (cw A0 g K nn dn q w e v f) (md_Qp (cw A0 g K nn dn q w e v f) (fun r => True)) := by
  refine mt_X6_endFound rfl (fun J hC => ?_)
  have ro_nn : cw_ro K nn := hI.2.1.2.1
  have ro_dn : cw_ro K dn := hI.2.1.2.2.1
  have hu1 := hI.2.1
  unfold cw_W at hu1
  have rg_x1 := pm_rng x1
  show J 0 [some (.ref (q 5)), some (.int x1)] [] (cw A0 g K nn dn q w e v f) 0 0
  refine hC.1 0 0 _ _ rfl _ _ _ _ _ ?_
  refine pq_iload_n1 (pq_icond_ne ?_)
  refine And.intro (fun c2 => ?_) (fun c2 => ?_)
  · skip
    have dc2 := pm_neI c2
    have k0 : (0 : Int32).toInt = 0 := rfl
    refine hC.1 1 11 _ _ rfl _ _ _ _ _ ?_
    refine pq_iload_n1 ?_
    have k1 : (1 : Int32).toInt = 1 := rfl
    refine pq_iconst (pq_icmp_ne ?_)
    refine And.intro (fun c3 => ?_) (fun c3 => ?_)
    · skip
      have dc3 := pm_neI c3
      refine hC.1 2 23 _ _ rfl _ _ _ _ _ ?_
      have km1 : (-1 : Int32).toInt = -1 := rfl
      refine pq_iconst (pq_nil ?_)
      refine hC.1 3 24 _ _ rfl _ _ _ _ _ ?_
      refine pq_iret ?_
      exact ⟨rfl, fun e9 => absurd e9 (by decide), rfl, (-1 : Int32), rfl, rfl, by exact True.intro⟩
    · skip
      have dc3 : (x1).toInt = ((1 : Int32) : Int32).toInt := congrArg Int32.toInt c3
      refine pq_aload_n0 (qgc_5_2 hI.1 (pq_goto ?_))
      refine hC.1 3 24 _ _ rfl _ _ _ _ _ ?_
      refine pq_iret ?_
      exact ⟨rfl, fun e9 => absurd e9 (by decide), rfl, (v 8), rfl, rfl, by exact True.intro⟩
  · skip
    have dc2 : (x1).toInt = (0 : Int32).toInt := congrArg Int32.toInt c2
    have k0 : (0 : Int32).toInt = 0 := rfl
    refine pq_aload_n0 (qgc_5_1 hI.1 (pq_goto ?_))
    refine hC.1 3 24 _ _ rfl _ _ _ _ _ ?_
    refine pq_iret ?_
    exact ⟨rfl, fun e9 => absurd e9 (by decide), rfl, (v 7), rfl, rfl, by exact True.intro⟩

set_option maxRecDepth 100000 in
set_option maxHeartbeats 2000000 in
theorem c_X6_clearFound (hI : cw_I K nn dn q w e) (hs : cw_S v f)   : pm_Mt l g 108 0 0 0 [.ref (q 5)] (cw A0 g K nn dn q w e v f) (cw_Qs A0 g K nn dn q w e (fun r v2 f2 => r = none ∧ (True))) := by
  refine mt_X6_clearFound rfl (fun J hC => ?_)
  have ro_nn : cw_ro K nn := hI.2.1.2.1
  have ro_dn : cw_ro K dn := hI.2.1.2.2.1
  have hu1 := hI.2.1
  unfold cw_W at hu1
  show J 0 [some (.ref (q 5))] [] (cw A0 g K nn dn q w e v f) 0 0
  refine hC.1 0 0 _ _ rfl _ _ _ _ _ ?_
  refine pq_aload_n0 ?_
  have km1 : (-1 : Int32).toInt = -1 := rfl
  refine pq_iconst ?_
  refine quc_5_1 hI.1 (fun v2 ev2 => ?_)
  have hs2 : cw_S v2 f := by rw [ev2]; exact cw_S_v hs 7 _ (by decide)
  have ev2_0 : (v2 0).toInt = (v 0).toInt := by rw [ev2]; rfl
  refine pq_aload_n0 (pq_iconst ?_)
  refine quc_5_2 hI.1 (fun v3 ev3 => ?_)
  have hs3 : cw_S v3 f := by rw [ev3]; exact cw_S_v hs2 8 _ (by decide)
  have ev3_0 : (v3 0).toInt = (v2 0).toInt := by rw [ev3]; rfl
  refine pq_ret ?_
  exact ⟨rfl, rfl, v3, f, rfl, hs3, rfl, by exact True.intro⟩

set_option maxRecDepth 100000 in
set_option maxHeartbeats 2000000 in
theorem c_X6_offerLonger (hI : cw_I K nn dn q w e) (hs : cw_S v f) (x1 : Int32) (x2 : Int32)  : pm_Mt l g 114 0 0 0 [.ref (q 5), .int x1, .int x2] (cw A0 g K nn dn q w e v f) (cw_Qs A0 g K nn dn q w e (fun r v2 f2 => r = none ∧ (True))) := by
  refine mt_X6_offerLonger rfl (fun J hC => ?_)
  have ro_nn : cw_ro K nn := hI.2.1.2.1
  have ro_dn : cw_ro K dn := hI.2.1.2.2.1
  have hu1 := hI.2.1
  unfold cw_W at hu1
  have rg_x1 := pm_rng x1
  have rg_x2 := pm_rng x2
  show J 0 [some (.ref (q 5)), some (.int x1), some (.int x2)] [] (cw A0 g K nn dn q w e v f) 0 0
  refine hC.1 0 0 _ _ rfl _ _ _ _ _ ?_
  refine pq_aload_n0 (qgc_5_1 hI.1 ?_)
  have km1 : (-1 : Int32).toInt = -1 := rfl
  refine pq_iconst (pq_icmp_eq ?_)
  refine And.intro (fun c2 => ?_) (fun c2 => ?_)
  · skip
    have dc2 : ((v 7)).toInt = ((-1 : Int32) : Int32).toInt := congrArg Int32.toInt c2
    refine hC.1 1 23 _ _ rfl _ _ _ _ _ ?_
    refine pq_aload_n0 (pq_iload_n1 ?_)
    refine quc_5_1 hI.1 (fun v3 ev3 => ?_)
    have hs3 : cw_S v3 f := by rw [ev3]; exact cw_S_v hs 7 _ (by decide)
    have ev3_0 : (v3 0).toInt = (v 0).toInt := by rw [ev3]; rfl
    refine pq_aload_n0 (pq_iload_n2 ?_)
    refine quc_5_2 hI.1 (fun v4 ev4 => ?_)
    have hs4 : cw_S v4 f := by rw [ev4]; exact cw_S_v hs3 8 _ (by decide)
    have ev4_0 : (v4 0).toInt = (v3 0).toInt := by rw [ev4]; rfl
    refine pq_nil ?_
    refine hC.1 2 33 _ _ rfl _ _ _ _ _ ?_
    refine pq_ret ?_
    exact ⟨rfl, rfl, v4, f, rfl, hs4, rfl, by exact True.intro⟩
  · skip
    have dc2 := pm_neI c2
    refine pq_iload_n2 (pq_iload_n1 (pq_isub ?_))
    intro m5 em_10
    try have e5 : m5.toInt = (x2).toInt - (x1).toInt := by rw [em_10]; exact pm_sub _ _ (by omega) (by omega)
    refine pq_aload_n0 (qgc_5_2 hI.1 (pq_aload_n0 (qgc_5_1 hI.1 (pq_isub ?_))))
    intro m6 em_19
    try have e6 : m6.toInt = ((v 8)).toInt - ((v 7)).toInt := by rw [em_19]; exact pm_sub _ _ (by omega) (by omega)
    refine pq_icmp_le ?_
    refine And.intro (fun c7 => ?_) (fun c7 => ?_)
    · skip
      refine hC.1 2 33 _ _ rfl _ _ _ _ _ ?_
      refine pq_ret ?_
      exact ⟨rfl, rfl, v, f, rfl, hs, rfl, by exact True.intro⟩
    · skip
      refine pq_nil ?_
      refine hC.1 1 23 _ _ rfl _ _ _ _ _ ?_
      refine pq_aload_n0 (pq_iload_n1 ?_)
      refine quc_5_1 hI.1 (fun v8 ev8 => ?_)
      have hs8 : cw_S v8 f := by rw [ev8]; exact cw_S_v hs 7 _ (by decide)
      have ev8_0 : (v8 0).toInt = (v 0).toInt := by rw [ev8]; rfl
      refine pq_aload_n0 (pq_iload_n2 ?_)
      refine quc_5_2 hI.1 (fun v9 ev9 => ?_)
      have hs9 : cw_S v9 f := by rw [ev9]; exact cw_S_v hs8 8 _ (by decide)
      have ev9_0 : (v9 0).toInt = (v8 0).toInt := by rw [ev9]; rfl
      refine pq_nil ?_
      refine hC.1 2 33 _ _ rfl _ _ _ _ _ ?_
      refine pq_ret ?_
      exact ⟨rfl, rfl, v9, f, rfl, hs9, rfl, by exact True.intro⟩

set_option maxRecDepth 100000 in
set_option maxHeartbeats 2000000 in
theorem c_X6_forColours (hI : cw_I K nn dn q w e) (hs : cw_S v f) {o1 : Nat} (ho1 : cw_ro K o1) (x3 : Int32) (x4 : Int32) (p0 : 0 ≤ x3.toInt ∧ x3.toInt < 160) : pm_Mt l g 101 2 0 0 [.ref (q 5), .ref (q o1), .ref (q 2), .int x3, .int x4] (cw A0 g K nn dn q w e v f) (cw_Qs A0 g K nn dn q w e (fun r v2 f2 => ∃ x : Int32, r = some (.int x) ∧ (True))) := by
  refine mt_X6_forColours rfl (fun J hC => ?_)
  have ro_nn : cw_ro K nn := hI.2.1.2.1
  have ro_dn : cw_ro K dn := hI.2.1.2.2.1
  have hu1 := hI.2.1
  unfold cw_W at hu1
  have rg_x3 := pm_rng x3
  have rg_x4 := pm_rng x4
  have zz0 := cw_sz hI ho1
  show J 0 [some (.ref (q 5)), some (.ref (q o1)), some (.ref (q 2)), some (.int x3), some (.int x4), none] [] (cw A0 g K nn dn q w e v f) 0 0
  refine hC.1 0 0 _ _ rfl _ _ _ _ _ ?_
  refine pq_aload_n2 (pq_iv0_2 ?_)
  refine And.intro (Exists.intro _ (cw_o2 hI.1)) (Exists.intro _ (Exists.intro _ (Exists.intro _ (Exists.intro _ (And.intro (c_X2_clear hI hs  ) (And.intro rfl (fun r9 A9 h9 => ?_)))))))
  rcases h9 with ⟨v3, f3, rfl, hs3, rfl, by2⟩
  refine pq_id0 (pq_iload_n3 (pq_istore [some (.ref (q 5)), some (.ref (q o1)), some (.ref (q 2)), some (.int x3), some (.int x4), some (.int x3)] rfl (pq_nil ?_)))
  have lp5 : ∀ (n : Nat) (z5_7 : Int32) (v4 : Nat → Int32) (f4 : Nat → Nat → Int32), cw_S v4 f4 → (0 ≤ z5_7.toInt ∧ z5_7.toInt ≤ 160) → 200 - z5_7.toInt < (n : Int) → J 7 [some (.ref (q 5)), some (.ref (q o1)), some (.ref (q 2)), some (.int x3), some (.int x4), some (.int z5_7)] [] (cw A0 g K nn dn q w e v4 f4) 0 0 := by
    intro n
    induction n with
    | zero =>
      intro z5_7 v4 f4 hs4 j0_7 j1_7
      omega
    | succ n ih6 =>
      intro z5_7 v4 f4 hs4 j0_7 j1_7
      refine hC.1 1 7 _ _ rfl _ _ _ _ _ ?_
      refine pq_iload5 (pq_aload_n1 (qgr_3 hI.1 ho1 ?_))
      have z7 := cw_sz hI ho1
      refine pq_icmp_ge ?_
      refine And.intro (fun c8 => ?_) (fun c8 => ?_)
      · skip
        refine hC.1 3 45 _ _ rfl _ _ _ _ _ ?_
        have km1 : (-1 : Int32).toInt = -1 := rfl
        refine pq_iconst (pq_iret ?_)
        exact ⟨rfl, fun e9 => absurd e9 (by decide), rfl, v4, f4, rfl, hs4, (-1 : Int32), rfl, by exact True.intro⟩
      · skip
        refine pq_aload_n2 (pq_aload_n1 (qgr_0 hI.1 ho1 (pq_iload5 (qlc_r1 hI.1 ho1 (by omega) ?_))))
        have w9 := cw_col hI ho1 (z5_7).toInt.toNat
        refine pq_iv1_2 ?_
        refine And.intro (Exists.intro _ (cw_o2 hI.1)) (Exists.intro _ (Exists.intro _ (Exists.intro _ (Exists.intro _ (And.intro (c_X2_take hI hs4 (e (o1 + 1) (z5_7).toInt.toNat) (by omega)) (And.intro rfl (fun r9 A9 h9 => ?_)))))))
        rcases h9 with ⟨v11, f11, rfl, hs11, rfl, by10⟩
        refine pq_id0 (pq_aload_n2 (qgc_2_3 hI.1 (pq_iload4 (pq_icmp_lt ?_))))
        refine And.intro (fun c12 => ?_) (fun c12 => ?_)
        · skip
          refine hC.1 2 39 _ _ rfl _ _ _ _ _ ?_
          have k1 : (1 : Int32).toInt = 1 := rfl
          refine pq_iinc (fun zm_9 => [some (.ref (q 5)), some (.ref (q o1)), some (.ref (q 2)), some (.int x3), some (.int x4), some (.int zm_9)]) rfl (fun _ => rfl) ?_
          intro m13 em_39
          try have e13 : m13.toInt = (z5_7).toInt + (1) := by rw [em_39]; exact pm_addc _ _ (1) rfl (by omega) (by omega)
          refine pq_goto ?_
          exact ih6 m13 v11 f11 hs11 (by omega) (by omega)
        · skip
          refine pq_iload5 (pq_iret ?_)
          exact ⟨rfl, fun e9 => absurd e9 (by decide), rfl, v11, f11, rfl, hs11, z5_7, rfl, by exact True.intro⟩
  exact lp5 (200 - x3.toInt).toNat.succ x3 v3 f3 hs3 (by omega) (by omega)

end
end
