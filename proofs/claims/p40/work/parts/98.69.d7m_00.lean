section
variable {l : Launch} {g : pm_G} {A0 : pm_H} {h : Nat} {q : Nat → Nat}
set_option maxRecDepth 100000 in
set_option maxHeartbeats 2000000 in
theorem F_X11_wasColour (D : md_D h q) (v : Nat → Int32) (f : Nat → Nat → Int32) (hv : md_V v) (hf : md_F f) (x1 : Int32) (x2 : Int32) (p0 : 0 ≤ x1.toInt) (p1 : 0 ≤ x2.toInt ∧ x2.toInt < 160) : pm_Mt l g 228 0 0 0 [.ref h, .int x1, .int x2] (md A0 g h q v f) (md_Qp (md A0 g h q v f) (fun r => r = rC f x1.toInt x2.toInt.toNat ∧ (0 ≤ r.toInt ∧ r.toInt ≤ 23))) := by
  refine mt_X11_wasColour rfl (fun J hC => ?_)
  have hv9 := hv
  unfold md_V at hv9
  have rg_x1 := pm_rng x1
  have rg_x2 := pm_rng x2
  refine hC.1 0 0 _ _ rfl _ _ _ _ _ ?_
  refine Exists.intro _ (And.intro md_o ?_)
  have k160 : (160 : Int32).toInt = 160 := rfl
  have k40 : (40 : Int32).toInt = 40 := rfl
  refine And.intro (by decide) ?_
  intro m1 em_10
  have e1 : 0 ≤ m1.toInt ∧ m1.toInt < 40 ∧ m1.toInt = (x1).toInt % 40 := by rw [em_10]; exact pm_remc _ _ 40 rfl (by omega) (by decide)
  intro m2 em_11
  try have e2 : m2.toInt = (160) * (m1).toInt := by rw [em_11]; exact pm_mulk _ _ (160) rfl (by omega) (by omega)
  intro m3 em_13
  try have e3 : m3.toInt = (m2).toInt + (x2).toInt := by rw [em_13]; exact pm_add _ _ (by omega) (by omega)
  refine Exists.intro _ (Exists.intro _ (And.intro (Or.inl (md_a_wasColours D)) (And.intro (by omega) ?_)))
  have w4 : (0 : Int) ≤ (f 12 (m3).toInt.toNat).toInt ∧ (f 12 (m3).toInt.toNat).toInt ≤ (23 : Int) := hf 12 _
  exact ⟨rfl, fun e9 => absurd e9 (by decide), rfl, (f 12 (m3).toInt.toNat), rfl, rfl, by exact ⟨by unfold rC; congr 1; omega, by omega⟩⟩

set_option maxRecDepth 100000 in
set_option maxHeartbeats 2000000 in
theorem F_X11_wasName (D : md_D h q) (v : Nat → Int32) (f : Nat → Nat → Int32) (hv : md_V v) (hf : md_F f) (x1 : Int32) (x2 : Int32) (p0 : 0 ≤ x1.toInt) (p1 : 0 ≤ x2.toInt ∧ x2.toInt < 160) : pm_Mt l g 229 0 0 0 [.ref h, .int x1, .int x2] (md A0 g h q v f) (md_Qp (md A0 g h q v f) (fun r => r = rM f x1.toInt x2.toInt.toNat)) := by
  refine mt_X11_wasName rfl (fun J hC => ?_)
  have hv9 := hv
  unfold md_V at hv9
  have rg_x1 := pm_rng x1
  have rg_x2 := pm_rng x2
  refine hC.1 0 0 _ _ rfl _ _ _ _ _ ?_
  refine Exists.intro _ (And.intro md_o ?_)
  have k160 : (160 : Int32).toInt = 160 := rfl
  have k40 : (40 : Int32).toInt = 40 := rfl
  refine And.intro (by decide) ?_
  intro m1 em_10
  have e1 : 0 ≤ m1.toInt ∧ m1.toInt < 40 ∧ m1.toInt = (x1).toInt % 40 := by rw [em_10]; exact pm_remc _ _ 40 rfl (by omega) (by decide)
  intro m2 em_11
  try have e2 : m2.toInt = (160) * (m1).toInt := by rw [em_11]; exact pm_mulk _ _ (160) rfl (by omega) (by omega)
  intro m3 em_13
  try have e3 : m3.toInt = (m2).toInt + (x2).toInt := by rw [em_13]; exact pm_add _ _ (by omega) (by omega)
  refine Exists.intro _ (Exists.intro _ (And.intro (Or.inl (md_a_wasNames D)) (And.intro (by omega) ?_)))
  exact ⟨rfl, fun e9 => absurd e9 (by decide), rfl, (f 13 (m3).toInt.toNat), rfl, rfl, by unfold rM; congr 1; omega⟩

set_option maxRecDepth 100000 in
set_option maxHeartbeats 2000000 in
theorem F_X11_wasPlace (D : md_D h q) (v : Nat → Int32) (f : Nat → Nat → Int32) (hv : md_V v) (hf : md_F f) (x1 : Int32) (x2 : Int32) (p0 : 0 ≤ x1.toInt) : pm_Mt l g 236 1 0 0 [.ref h, .int x1, .int x2] (md A0 g h q v f) (md_Qp (md A0 g h q v f) (fun r => (-1 ≤ r.toInt ∧ r.toInt < 160) ∧ r.toInt = nextEq (rM f x1.toInt) x2 0 (rN f x1.toInt).toInt.toNat)) := by
  refine mt_X11_wasPlace rfl (fun J hC => ?_)
  have hv9 := hv
  unfold md_V at hv9
  have rg_x1 := pm_rng x1
  have rg_x2 := pm_rng x2
  have rb9 : 0 ≤ (rN f x1.toInt).toInt ∧ (rN f x1.toInt).toInt ≤ 160 := hf 14 _
  refine hC.1 0 0 _ _ rfl _ _ _ _ _ ?_
  have k0 : (0 : Int32).toInt = 0 := rfl
  have lp1 : ∀ (n : Nat) (z3_2 : Int32), (0 ≤ z3_2.toInt ∧ z3_2.toInt ≤ 160) → (z3_2.toInt ≤ (rN f x1.toInt).toInt ∧ nextEq (rM f x1.toInt) x2 0 (rN f x1.toInt).toInt.toNat = nextEq (rM f x1.toInt) x2 z3_2.toInt.toNat ((rN f x1.toInt).toInt - z3_2.toInt).toNat) → 200 - z3_2.toInt < (n : Int) → J 2 [some (.ref h), some (.int x1), some (.int x2), some (.int z3_2)] [] (md A0 g h q v f) 0 0 := by
    intro n
    induction n with
    | zero =>
      intro z3_2 j0_2 j1_2 j2_2
      omega
    | succ n ih2 =>
      intro z3_2 j0_2 j1_2 j2_2
      refine hC.1 1 2 _ _ rfl _ _ _ _ _ ?_
      refine Exists.intro _ (And.intro md_o ?_)
      have k40 : (40 : Int32).toInt = 40 := rfl
      refine And.intro (by decide) ?_
      intro m3 em_10
      have e3 : 0 ≤ m3.toInt ∧ m3.toInt < 40 ∧ m3.toInt = (x1).toInt % 40 := by rw [em_10]; exact pm_remc _ _ 40 rfl (by omega) (by decide)
      refine Exists.intro _ (Exists.intro _ (And.intro (Or.inl (md_a_wasMany D)) (And.intro (by omega) ?_)))
      have w4 : (0 : Int) ≤ (f 14 (m3).toInt.toNat).toInt ∧ (f 14 (m3).toInt.toNat).toInt ≤ (160 : Int) := hf 14 _
      have rn9 : ((f 14 (m3).toInt.toNat)).toInt = (rN f x1.toInt).toInt := (by unfold rN; congr 2; omega)
      refine And.intro (fun c5 => ?_) (fun c5 => ?_)
      · skip
        refine hC.1 3 33 _ _ rfl _ _ _ _ _ ?_
        have km1 : (-1 : Int32).toInt = -1 := rfl
        exact ⟨rfl, fun e9 => absurd e9 (by decide), rfl, (-1 : Int32), rfl, rfl, by refine ⟨by omega, ?_⟩; rw [j1_2.2, show ((rN f x1.toInt).toInt - z3_2.toInt).toNat = 0 by omega]; rfl⟩
      · skip
        refine And.intro (Exists.intro _ md_o) (Exists.intro _ (Exists.intro _ (Exists.intro _ (Exists.intro _ (And.intro (F_X11_wasName D v f hv hf x1 z3_2 (by omega) (by omega)) (And.intro rfl (fun r9 A9 h9 => ?_)))))))
        obtain ⟨y6, rfl, rfl, by6⟩ := h9
        have hm9 := by6
        refine And.intro (fun c7 => ?_) (fun c7 => ?_)
        · skip
          have dc7 := pm_neI c7
          refine hC.1 2 27 _ _ rfl _ _ _ _ _ ?_
          have k1 : (1 : Int32).toInt = 1 := rfl
          intro m8 em_27
          try have e8 : m8.toInt = (z3_2).toInt + (1) := by rw [em_27]; exact pm_addc _ _ (1) rfl (by omega) (by omega)
          exact ih2 m8 (by omega) (by refine ⟨by omega, ?_⟩; rw [j1_2.2, nextEq_s (by omega) (by omega), if_neg (by rw [← hm9]; assumption)]; congr 1 <;> omega) (by omega)
        · skip
          have dc7 : (y6).toInt = (x2 : Int32).toInt := congrArg Int32.toInt c7
          exact ⟨rfl, fun e9 => absurd e9 (by decide), rfl, z3_2, rfl, rfl, by refine ⟨by omega, ?_⟩; rw [j1_2.2, nextEq_s (by omega) (by omega), if_pos (by rw [← hm9]; assumption)]⟩
  exact lp1 (200 - (0 : Int32).toInt).toNat.succ (0 : Int32) (by omega) (by exact ⟨by omega, by congr 1 <;> omega⟩) (by omega)

set_option maxRecDepth 100000 in
set_option maxHeartbeats 2000000 in
theorem F_X11_wasSet (D : md_D h q) (v : Nat → Int32) (f : Nat → Nat → Int32) (hv : md_V v) (hf : md_F f) (x1 : Int32) (x2 : Int32) (x3 : Int32) (p0 : 0 ≤ x1.toInt) (p1 : 0 ≤ x2.toInt ∧ x2.toInt ≤ 160) (p2 : -1 ≤ x3.toInt ∧ x3.toInt < 160) : pm_Mt l g 232 1 0 0 [.ref h, .int x1, .int x2, .int x3] (md A0 g h q v f) (md_Qp (md A0 g h q v f) (fun r => r = setF (rC f x1.toInt) x2.toInt.toNat (x3.toInt + 1 - x2.toInt).toNat)) := by
  refine mt_X11_wasSet rfl (fun J hC => ?_)
  have hv9 := hv
  unfold md_V at hv9
  have rg_x1 := pm_rng x1
  have rg_x2 := pm_rng x2
  have rg_x3 := pm_rng x3
  refine hC.1 0 0 _ _ rfl _ _ _ _ _ ?_
  have k0 : (0 : Int32).toInt = 0 := rfl
  have lp1 : ∀ (n : Nat) (z4_6 : Int32) (z5_6 : Int32), (x2.toInt ≤ z5_6.toInt ∧ z5_6.toInt ≤ 161 ∧ (z5_6.toInt ≤ x3.toInt + 1 ∨ z5_6.toInt = x2.toInt)) → (z4_6 = setF (rC f x1.toInt) x2.toInt.toNat (z5_6.toInt - x2.toInt).toNat) → 200 - z5_6.toInt < (n : Int) → J 6 [some (.ref h), some (.int x1), some (.int x2), some (.int x3), some (.int z4_6), some (.int z5_6)] [] (md A0 g h q v f) 0 0 := by
    intro n
    induction n with
    | zero =>
      intro z4_6 z5_6 j0_6 j1_6 j2_6
      omega
    | succ n ih2 =>
      intro z4_6 z5_6 j0_6 j1_6 j2_6
      refine hC.1 1 6 _ _ rfl _ _ _ _ _ ?_
      refine And.intro (fun c3 => ?_) (fun c3 => ?_)
      · skip
        refine hC.1 2 32 _ _ rfl _ _ _ _ _ ?_
        exact ⟨rfl, fun e9 => absurd e9 (by decide), rfl, z4_6, rfl, rfl, by rw [j1_6]; congr 1; omega⟩
      · skip
        have k1 : (1 : Int32).toInt = 1 := rfl
        refine And.intro (Exists.intro _ md_o) (Exists.intro _ (Exists.intro _ (Exists.intro _ (Exists.intro _ (And.intro (F_X11_wasColour D v f hv hf x1 z5_6 (by omega) (by omega)) (And.intro rfl (fun r9 A9 h9 => ?_)))))))
        obtain ⟨y4, rfl, rfl, by4⟩ := h9
        have ha9 := by4.1
        intro m5 em_26
        try have e5 : m5.toInt = (z5_6).toInt + (1) := by rw [em_26]; exact pm_addc _ _ (1) rfl (by omega) (by omega)
        exact ih2 (z4_6 ||| ((1 : Int32) <<< (y4 &&& 31))) m5 (by omega) (by rw [j1_6, ha9]; exact setF_s (m := m5) (by omega) (by omega)) (by omega)
  exact lp1 (200 - x2.toInt).toNat.succ (0 : Int32) x2 (by omega) (by rw [show (x2.toInt - x2.toInt).toNat = 0 by omega]; rfl) (by omega)

end

