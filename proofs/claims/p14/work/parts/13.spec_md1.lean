section SPEC_MD1
variable {l : Launch} {g : pm_G} {A0 : pm_H} {h : Nat} {q : Nat → Nat}
set_option maxRecDepth 100000 in
set_option maxHeartbeats 2000000 in
theorem c_X11_isIn (A : pm_H) (x0 : Int32) (x1 : Int32) (x2 : Int32)  : pm_Mt l g 169 0 0 0 [.int x0, .int x1, .int x2] A (md_Qp A (fun r => (r = 1 ∧ (x1.toInt ≤ x0.toInt ∧ x0.toInt ≤ x2.toInt)) ∨ (r = 0 ∧ (¬ (x1.toInt ≤ x0.toInt ∧ x0.toInt ≤ x2.toInt))))) := by
  refine mt_X11_isIn rfl (fun J hC => ?_)
  have rg_x0 := pm_rng x0
  have rg_x1 := pm_rng x1
  have rg_x2 := pm_rng x2
  refine hC.1 0 0 _ _ rfl _ _ _ _ _ ?_
  refine And.intro (fun c1 => ?_) (fun c1 => ?_)
  · skip
    refine hC.1 1 14 _ _ rfl _ _ _ _ _ ?_
    have k0 : (0 : Int32).toInt = 0 := rfl
    refine hC.1 2 15 _ _ rfl _ _ _ _ _ ?_
    exact ⟨rfl, fun _ => (by decide), rfl, (0 : Int32), rfl, rfl, Or.inr ⟨rfl, by first | trivial | omega | (dsimp only; omega)⟩⟩
  · skip
    refine And.intro (fun c2 => ?_) (fun c2 => ?_)
    · skip
      refine hC.1 1 14 _ _ rfl _ _ _ _ _ ?_
      have k0 : (0 : Int32).toInt = 0 := rfl
      refine hC.1 2 15 _ _ rfl _ _ _ _ _ ?_
      exact ⟨rfl, fun _ => (by decide), rfl, (0 : Int32), rfl, rfl, Or.inr ⟨rfl, by first | trivial | omega | (dsimp only; omega)⟩⟩
    · skip
      have k1 : (1 : Int32).toInt = 1 := rfl
      refine hC.1 2 15 _ _ rfl _ _ _ _ _ ?_
      exact ⟨rfl, fun _ => (by decide), rfl, (1 : Int32), rfl, rfl, Or.inl ⟨rfl, by first | trivial | omega | (dsimp only; omega)⟩⟩

set_option maxRecDepth 100000 in
set_option maxHeartbeats 2000000 in
theorem c_X11_isPlace (D : md_D h q) (v : Nat → Int32) (f : Nat → Nat → Int32) (hv : md_V v) (hf : md_F f) (x1 : Int32)  : pm_Mt l g 168 1 0 0 [.ref h, .int x1] (md A0 g h q v f) (md_Qp (md A0 g h q v f) (fun r => (r = 1 ∧ (0 ≤ x1.toInt ∧ x1.toInt < (v 0).toInt)) ∨ (r = 0 ∧ (¬ (0 ≤ x1.toInt ∧ x1.toInt < (v 0).toInt))))) := by
  refine mt_X11_isPlace rfl (fun J hC => ?_)
  have hv9 := hv
  unfold md_V at hv9
  have rg_x1 := pm_rng x1
  refine hC.1 0 0 _ _ rfl _ _ _ _ _ ?_
  have k0 : (0 : Int32).toInt = 0 := rfl
  refine Exists.intro _ (And.intro md_o ?_)
  have k1 : (1 : Int32).toInt = 1 := rfl
  try have e1 : ((v 0) - (1 : Int32)).toInt = ((v 0)).toInt - ((1 : Int32)).toInt := pm_sub _ _ (by omega) (by omega)
  refine Exists.intro _ (Exists.intro _ (Exists.intro _ (Exists.intro _ (And.intro (c_X11_isIn (md A0 g h q v f) x1 (0 : Int32) ((v 0) - (1 : Int32)) ) (And.intro rfl (fun r9 A9 h9 => ?_))))))
  rcases h9 with ⟨y2, rfl, rfl, ⟨rfl, by2⟩ | ⟨rfl, by2⟩⟩
  · skip
    exact ⟨rfl, fun _ => (by decide), rfl, (1 : Int32), rfl, rfl, Or.inl ⟨rfl, by first | trivial | omega | (dsimp only; omega)⟩⟩
  · skip
    exact ⟨rfl, fun _ => (by decide), rfl, (0 : Int32), rfl, rfl, Or.inr ⟨rfl, by first | trivial | omega | (dsimp only; omega)⟩⟩

set_option maxRecDepth 100000 in
set_option maxHeartbeats 2000000 in
theorem c_X11_isColour (A : pm_H) (x0 : Int32)  : pm_Mt l g 170 1 0 0 [.int x0] A (md_Qp A (fun r => (r = 1 ∧ (0 ≤ x0.toInt ∧ x0.toInt ≤ 23)) ∨ (r = 0 ∧ (¬ (0 ≤ x0.toInt ∧ x0.toInt ≤ 23))))) := by
  refine mt_X11_isColour rfl (fun J hC => ?_)
  have rg_x0 := pm_rng x0
  refine hC.1 0 0 _ _ rfl _ _ _ _ _ ?_
  have k0 : (0 : Int32).toInt = 0 := rfl
  have k23 : (23 : Int32).toInt = 23 := rfl
  refine Exists.intro _ (Exists.intro _ (Exists.intro _ (Exists.intro _ (And.intro (c_X11_isIn A x0 (0 : Int32) (23 : Int32) ) (And.intro rfl (fun r9 A9 h9 => ?_))))))
  rcases h9 with ⟨y1, rfl, rfl, ⟨rfl, by1⟩ | ⟨rfl, by1⟩⟩
  · skip
    have k1 : (1 : Int32).toInt = 1 := rfl
    exact ⟨rfl, fun _ => (by decide), rfl, (1 : Int32), rfl, rfl, Or.inl ⟨rfl, by first | trivial | omega | (dsimp only; omega)⟩⟩
  · skip
    exact ⟨rfl, fun _ => (by decide), rfl, (0 : Int32), rfl, rfl, Or.inr ⟨rfl, by first | trivial | omega | (dsimp only; omega)⟩⟩

set_option maxRecDepth 100000 in
set_option maxHeartbeats 2000000 in
theorem c_X11_isSpan (D : md_D h q) (v : Nat → Int32) (f : Nat → Nat → Int32) (hv : md_V v) (hf : md_F f) (x1 : Int32) (x2 : Int32)  : pm_Mt l g 180 0 0 0 [.ref h, .int x1, .int x2] (md A0 g h q v f) (md_Qp (md A0 g h q v f) (fun r => (r = 1 ∧ (0 ≤ x1.toInt ∧ x1.toInt ≤ x2.toInt ∧ x2.toInt < (v 0).toInt)) ∨ (r = 0 ∧ (¬ (0 ≤ x1.toInt ∧ x1.toInt ≤ x2.toInt ∧ x2.toInt < (v 0).toInt))))) := by
  refine mt_X11_isSpan rfl (fun J hC => ?_)
  have hv9 := hv
  unfold md_V at hv9
  have rg_x1 := pm_rng x1
  have rg_x2 := pm_rng x2
  refine hC.1 0 0 _ _ rfl _ _ _ _ _ ?_
  refine And.intro (fun c1 => ?_) (fun c1 => ?_)
  · skip
    refine hC.1 1 21 _ _ rfl _ _ _ _ _ ?_
    have k0 : (0 : Int32).toInt = 0 := rfl
    refine hC.1 2 22 _ _ rfl _ _ _ _ _ ?_
    exact ⟨rfl, fun _ => (by decide), rfl, (0 : Int32), rfl, rfl, Or.inr ⟨rfl, by first | trivial | omega | (dsimp only; omega)⟩⟩
  · skip
    refine And.intro (fun c2 => ?_) (fun c2 => ?_)
    · skip
      refine hC.1 1 21 _ _ rfl _ _ _ _ _ ?_
      have k0 : (0 : Int32).toInt = 0 := rfl
      refine hC.1 2 22 _ _ rfl _ _ _ _ _ ?_
      exact ⟨rfl, fun _ => (by decide), rfl, (0 : Int32), rfl, rfl, Or.inr ⟨rfl, by first | trivial | omega | (dsimp only; omega)⟩⟩
    · skip
      refine Exists.intro _ (And.intro md_o ?_)
      refine And.intro (fun c3 => ?_) (fun c3 => ?_)
      · skip
        refine hC.1 1 21 _ _ rfl _ _ _ _ _ ?_
        have k0 : (0 : Int32).toInt = 0 := rfl
        refine hC.1 2 22 _ _ rfl _ _ _ _ _ ?_
        exact ⟨rfl, fun _ => (by decide), rfl, (0 : Int32), rfl, rfl, Or.inr ⟨rfl, by first | trivial | omega | (dsimp only; omega)⟩⟩
      · skip
        have k1 : (1 : Int32).toInt = 1 := rfl
        refine hC.1 2 22 _ _ rfl _ _ _ _ _ ?_
        exact ⟨rfl, fun _ => (by decide), rfl, (1 : Int32), rfl, rfl, Or.inl ⟨rfl, by first | trivial | omega | (dsimp only; omega)⟩⟩

set_option maxRecDepth 100000 in
set_option maxHeartbeats 2000000 in
theorem c_X11_bits (A : pm_H) (x0 : Int32)  : pm_Mt l g 207 0 0 0 [.int x0] A (md_Qp A (fun r => (¬ x0 = 0 ∧ x0 &&& (x0 - 1) = 0) → r = 1)) := by
  refine mt_X11_bits rfl (fun J hC => ?_)
  have rg_x0 := pm_rng x0
  refine hC.1 0 0 _ _ rfl _ _ _ _ _ ?_
  have k0 : (0 : Int32).toInt = 0 := rfl
  have lp1 : ∀ (n : Nat) (z1_4 : Int32) (z2_4 : Int32), ((z1_4 = 0 ∧ z2_4 = x0) ∨ (¬ x0 = 0 ∧ (x0 &&& (x0 - 1) = 0 → z1_4 = 1 ∧ z2_4 = 0))) → (z2_4.toBitVec.toNat : Int) < (n : Int) → J 4 [some (.int x0), some (.int z1_4), some (.int z2_4)] [] A 0 0 := by
    intro n
    induction n with
    | zero =>
      intro z1_4 z2_4 j0_4 j1_4
      omega
    | succ n ih2 =>
      intro z1_4 z2_4 j0_4 j1_4
      refine hC.1 1 4 _ _ rfl _ _ _ _ _ ?_
      refine And.intro (fun c3 => ?_) (fun c3 => ?_)
      · skip
        have dc3 : (z2_4).toInt = (0 : Int32).toInt := congrArg Int32.toInt c3
        refine hC.1 2 20 _ _ rfl _ _ _ _ _ ?_
        exact ⟨rfl, fun e9 => absurd e9 (by decide), rfl, z1_4, rfl, rfl, by intro h9; rcases j0_4 with ⟨h1, h2⟩ | ⟨h1, h2⟩; · exact absurd (h2.symm.trans (by assumption)) h9.1; · exact (h2 h9.2).1⟩
      · skip
        have dc3 := pm_neI c3
        have k1 : (1 : Int32).toInt = 1 := rfl
        exact ih2 (z1_4 + (1 : Int32)) (z2_4 &&& (z2_4 - (1 : Int32))) (by rcases j0_4 with ⟨h1, h2⟩ | ⟨h1, h2⟩; · exact Or.inr ⟨by rw [← h2]; assumption, fun e9 => ⟨by rw [h1]; rfl, by rw [h2]; exact e9⟩⟩; · exact Or.inr ⟨h1, fun e9 => absurd (h2 e9).2 (by assumption)⟩) (by have h1 := pm_bits_lt (x := z2_4) (by assumption); omega)
  exact lp1 ((x0.toBitVec.toNat : Int)).toNat.succ (0 : Int32) x0 (by exact Or.inl ⟨rfl, rfl⟩) (by omega)

set_option maxRecDepth 100000 in
set_option maxHeartbeats 2000000 in
theorem c_X11_ahead (D : md_D h q) (v : Nat → Int32) (f : Nat → Nat → Int32) (hv : md_V v) (hf : md_F f) (x1 : Int32) (p0 : 0 ≤ x1.toInt ∧ x1.toInt < 160) : pm_Mt l g 174 0 0 0 [.ref h, .int x1] (md A0 g h q v f) (md_Qp (md A0 g h q v f) (fun r => r.toInt = lastEq (f 0) (f 0 x1.toInt.toNat) x1.toInt.toNat)) := by
  refine mt_X11_ahead rfl (fun J hC => ?_)
  have hv9 := hv
  unfold md_V at hv9
  have rg_x1 := pm_rng x1
  refine hC.1 0 0 _ _ rfl _ _ _ _ _ ?_
  have k1 : (1 : Int32).toInt = 1 := rfl
  try have e1 : (x1 - (1 : Int32)).toInt = (x1).toInt - ((1 : Int32)).toInt := pm_sub _ _ (by omega) (by omega)
  have lp2 : ∀ (n : Nat) (z2_4 : Int32), -1 ≤ z2_4.toInt ∧ z2_4.toInt < x1.toInt → lastEq (f 0) (f 0 x1.toInt.toNat) x1.toInt.toNat = lastEq (f 0) (f 0 x1.toInt.toNat) (z2_4.toInt + 1).toNat → z2_4.toInt + 1 < (n : Int) → J 4 [some (.ref h), some (.int x1), some (.int z2_4)] [] (md A0 g h q v f) 0 0 := by
    intro n
    induction n with
    | zero =>
      intro z2_4 j0_4 j1_4 j2_4
      omega
    | succ n ih3 =>
      intro z2_4 j0_4 j1_4 j2_4
      refine hC.1 1 4 _ _ rfl _ _ _ _ _ ?_
      refine And.intro (fun c4 => ?_) (fun c4 => ?_)
      · skip
        refine hC.1 3 31 _ _ rfl _ _ _ _ _ ?_
        have km1 : (-1 : Int32).toInt = -1 := rfl
        exact ⟨rfl, fun e9 => absurd e9 (by decide), rfl, (-1 : Int32), rfl, rfl, by rw [j1_4, show (z2_4.toInt + 1).toNat = 0 by omega]; rfl⟩
      · skip
        refine Exists.intro _ (And.intro md_o ?_)
        refine Exists.intro _ (Exists.intro _ (And.intro (Or.inl (md_a_colours D)) (And.intro (by omega) ?_)))
        have w5 : (0 : Int) ≤ (f 0 (z2_4).toInt.toNat).toInt ∧ (f 0 (z2_4).toInt.toNat).toInt ≤ (23 : Int) := hf 0 _
        refine Exists.intro _ (And.intro md_o ?_)
        refine Exists.intro _ (Exists.intro _ (And.intro (Or.inl (md_a_colours D)) (And.intro (by omega) ?_)))
        have w6 : (0 : Int) ≤ (f 0 (x1).toInt.toNat).toInt ∧ (f 0 (x1).toInt.toNat).toInt ≤ (23 : Int) := hf 0 _
        refine And.intro (fun c7 => ?_) (fun c7 => ?_)
        · skip
          have dc7 := pm_neI c7
          refine hC.1 2 25 _ _ rfl _ _ _ _ _ ?_
          have km1 : (-1 : Int32).toInt = -1 := rfl
          try have e8 : (z2_4 + (-1 : Int32)).toInt = (z2_4).toInt + ((-1 : Int32)).toInt := pm_add _ _ (by omega) (by omega)
          exact ih3 (z2_4 + (-1 : Int32)) (by omega) (by rw [j1_4, lastEq_s (by omega), if_neg (by assumption), show ((z2_4 + -1).toInt + 1).toNat = z2_4.toInt.toNat by omega]) (by omega)
        · skip
          have dc7 : ((f 0 (z2_4).toInt.toNat)).toInt = ((f 0 (x1).toInt.toNat) : Int32).toInt := congrArg Int32.toInt c7
          exact ⟨rfl, fun e9 => absurd e9 (by decide), rfl, z2_4, rfl, rfl, by rw [j1_4, lastEq_s (by omega), if_pos (by assumption)]⟩
  exact lp2 ((x1 - (1 : Int32)).toInt + 1).toNat.succ (x1 - (1 : Int32)) (by omega) (by rw [show ((x1 - 1).toInt + 1).toNat = x1.toInt.toNat by omega]) (by omega)

set_option maxRecDepth 100000 in
set_option maxHeartbeats 2000000 in
theorem c_X11_behind (D : md_D h q) (v : Nat → Int32) (f : Nat → Nat → Int32) (hv : md_V v) (hf : md_F f) (x1 : Int32) (p0 : 0 ≤ x1.toInt ∧ x1.toInt < (v 0).toInt) : pm_Mt l g 196 0 0 0 [.ref h, .int x1] (md A0 g h q v f) (md_Qp (md A0 g h q v f) (fun r => r.toInt = nextEq (f 0) (f 0 x1.toInt.toNat) (x1.toInt + 1).toNat ((v 0).toInt - (x1.toInt + 1)).toNat)) := by
  refine mt_X11_behind rfl (fun J hC => ?_)
  have hv9 := hv
  unfold md_V at hv9
  have rg_x1 := pm_rng x1
  refine hC.1 0 0 _ _ rfl _ _ _ _ _ ?_
  have k1 : (1 : Int32).toInt = 1 := rfl
  try have e1 : (x1 + (1 : Int32)).toInt = (x1).toInt + ((1 : Int32)).toInt := pm_add _ _ (by omega) (by omega)
  have lp2 : ∀ (n : Nat) (z2_4 : Int32), 0 ≤ z2_4.toInt ∧ z2_4.toInt ≤ (v 0).toInt → nextEq (f 0) (f 0 x1.toInt.toNat) (x1.toInt + 1).toNat ((v 0).toInt - (x1.toInt + 1)).toNat = nextEq (f 0) (f 0 x1.toInt.toNat) z2_4.toInt.toNat ((v 0).toInt - z2_4.toInt).toNat → 200 - z2_4.toInt < (n : Int) → J 4 [some (.ref h), some (.int x1), some (.int z2_4)] [] (md A0 g h q v f) 0 0 := by
    intro n
    induction n with
    | zero =>
      intro z2_4 j0_4 j1_4 j2_4
      omega
    | succ n ih3 =>
      intro z2_4 j0_4 j1_4 j2_4
      refine hC.1 1 4 _ _ rfl _ _ _ _ _ ?_
      refine Exists.intro _ (And.intro md_o ?_)
      refine And.intro (fun c4 => ?_) (fun c4 => ?_)
      · skip
        refine hC.1 3 35 _ _ rfl _ _ _ _ _ ?_
        have km1 : (-1 : Int32).toInt = -1 := rfl
        exact ⟨rfl, fun e9 => absurd e9 (by decide), rfl, (-1 : Int32), rfl, rfl, by rw [j1_4, show ((v 0).toInt - z2_4.toInt).toNat = 0 by omega]; rfl⟩
      · skip
        refine Exists.intro _ (And.intro md_o ?_)
        refine Exists.intro _ (Exists.intro _ (And.intro (Or.inl (md_a_colours D)) (And.intro (by omega) ?_)))
        have w5 : (0 : Int) ≤ (f 0 (z2_4).toInt.toNat).toInt ∧ (f 0 (z2_4).toInt.toNat).toInt ≤ (23 : Int) := hf 0 _
        refine Exists.intro _ (And.intro md_o ?_)
        refine Exists.intro _ (Exists.intro _ (And.intro (Or.inl (md_a_colours D)) (And.intro (by omega) ?_)))
        have w6 : (0 : Int) ≤ (f 0 (x1).toInt.toNat).toInt ∧ (f 0 (x1).toInt.toNat).toInt ≤ (23 : Int) := hf 0 _
        refine And.intro (fun c7 => ?_) (fun c7 => ?_)
        · skip
          have dc7 := pm_neI c7
          refine hC.1 2 29 _ _ rfl _ _ _ _ _ ?_
          try have e8 : (z2_4 + (1 : Int32)).toInt = (z2_4).toInt + ((1 : Int32)).toInt := pm_add _ _ (by omega) (by omega)
          exact ih3 (z2_4 + (1 : Int32)) (by omega) (by rw [j1_4, nextEq_s (by omega) (by omega), if_neg (by assumption)]; congr 1 <;> omega) (by omega)
        · skip
          have dc7 : ((f 0 (z2_4).toInt.toNat)).toInt = ((f 0 (x1).toInt.toNat) : Int32).toInt := congrArg Int32.toInt c7
          exact ⟨rfl, fun e9 => absurd e9 (by decide), rfl, z2_4, rfl, rfl, by rw [j1_4, nextEq_s (by omega) (by omega), if_pos (by assumption)]⟩
  exact lp2 (200 - (x1 + (1 : Int32)).toInt).toNat.succ (x1 + (1 : Int32)) (by omega) (by congr 1 <;> omega) (by omega)

set_option maxRecDepth 100000 in
set_option maxHeartbeats 2000000 in
theorem c_X11_bondOf (D : md_D h q) (v : Nat → Int32) (f : Nat → Nat → Int32) (hv : md_V v) (hf : md_F f) (x1 : Int32) (p0 : 0 ≤ x1.toInt ∧ x1.toInt < 160) : pm_Mt l g 173 1 0 0 [.ref h, .int x1] (md A0 g h q v f) (md_Qp (md A0 g h q v f) (fun r => True)) := by
  refine mt_X11_bondOf rfl (fun J hC => ?_)
  have hv9 := hv
  unfold md_V at hv9
  have rg_x1 := pm_rng x1
  have lt9 := lastEq_lt (f 0) (f 0 x1.toInt.toNat) x1.toInt.toNat
  refine hC.1 0 0 _ _ rfl _ _ _ _ _ ?_
  refine And.intro (Exists.intro _ md_o) (Exists.intro _ (Exists.intro _ (Exists.intro _ (Exists.intro _ (And.intro (c_X11_ahead D v f hv hf x1 (by omega)) (And.intro rfl (fun r9 A9 h9 => ?_)))))))
  obtain ⟨y1, rfl, rfl, by1⟩ := h9
  refine And.intro (fun c2 => ?_) (fun c2 => ?_)
  · skip
    refine hC.1 1 12 _ _ rfl _ _ _ _ _ ?_
    refine Exists.intro _ (And.intro md_o ?_)
    refine And.intro (Exists.intro _ md_o) (Exists.intro _ (Exists.intro _ (Exists.intro _ (Exists.intro _ (And.intro (c_X11_ahead D v f hv hf x1 (by omega)) (And.intro rfl (fun r9 A9 h9 => ?_)))))))
    obtain ⟨y3, rfl, rfl, by3⟩ := h9
    refine Exists.intro _ (Exists.intro _ (And.intro (Or.inl (md_a_names D)) (And.intro (by omega) ?_)))
    refine hC.1 2 22 _ _ rfl _ _ _ _ _ ?_
    exact ⟨rfl, fun e9 => absurd e9 (by decide), rfl, (f 1 (y3).toInt.toNat), rfl, rfl, by first | trivial | omega | (dsimp only; omega)⟩
  · skip
    have km1 : (-1 : Int32).toInt = -1 := rfl
    refine hC.1 2 22 _ _ rfl _ _ _ _ _ ?_
    exact ⟨rfl, fun e9 => absurd e9 (by decide), rfl, (-1 : Int32), rfl, rfl, by first | trivial | omega | (dsimp only; omega)⟩

set_option maxRecDepth 100000 in
set_option maxHeartbeats 2000000 in
theorem c_X11_placeOf (D : md_D h q) (v : Nat → Int32) (f : Nat → Nat → Int32) (hv : md_V v) (hf : md_F f) (x1 : Int32)  : pm_Mt l g 198 0 0 0 [.ref h, .int x1] (md A0 g h q v f) (md_Qp (md A0 g h q v f) (fun r => -1 ≤ r.toInt ∧ r.toInt < (v 0).toInt)) := by
  refine mt_X11_placeOf rfl (fun J hC => ?_)
  have hv9 := hv
  unfold md_V at hv9
  have rg_x1 := pm_rng x1
  refine hC.1 0 0 _ _ rfl _ _ _ _ _ ?_
  have k0 : (0 : Int32).toInt = 0 := rfl
  have lp1 : ∀ (n : Nat) (z2_2 : Int32), 0 ≤ z2_2.toInt ∧ z2_2.toInt ≤ (v 0).toInt → 200 - z2_2.toInt < (n : Int) → J 2 [some (.ref h), some (.int x1), some (.int z2_2)] [] (md A0 g h q v f) 0 0 := by
    intro n
    induction n with
    | zero =>
      intro z2_2 j0_2 j1_2
      omega
    | succ n ih2 =>
      intro z2_2 j0_2 j1_2
      refine hC.1 1 2 _ _ rfl _ _ _ _ _ ?_
      refine Exists.intro _ (And.intro md_o ?_)
      refine And.intro (fun c3 => ?_) (fun c3 => ?_)
      · skip
        refine hC.1 3 28 _ _ rfl _ _ _ _ _ ?_
        have km1 : (-1 : Int32).toInt = -1 := rfl
        exact ⟨rfl, fun e9 => absurd e9 (by decide), rfl, (-1 : Int32), rfl, rfl, by first | trivial | omega | (dsimp only; omega)⟩
      · skip
        refine Exists.intro _ (And.intro md_o ?_)
        refine Exists.intro _ (Exists.intro _ (And.intro (Or.inl (md_a_names D)) (And.intro (by omega) ?_)))
        refine And.intro (fun c4 => ?_) (fun c4 => ?_)
        · skip
          have dc4 := pm_neI c4
          refine hC.1 2 22 _ _ rfl _ _ _ _ _ ?_
          have k1 : (1 : Int32).toInt = 1 := rfl
          try have e5 : (z2_2 + (1 : Int32)).toInt = (z2_2).toInt + ((1 : Int32)).toInt := pm_add _ _ (by omega) (by omega)
          exact ih2 (z2_2 + (1 : Int32)) (by omega) (by omega)
        · skip
          have dc4 : ((f 1 (z2_2).toInt.toNat)).toInt = (x1 : Int32).toInt := congrArg Int32.toInt c4
          exact ⟨rfl, fun e9 => absurd e9 (by decide), rfl, z2_2, rfl, rfl, by first | trivial | omega | (dsimp only; omega)⟩
  exact lp1 (200 - (0 : Int32).toInt).toNat.succ (0 : Int32) (by omega) (by omega)

end SPEC_MD1
