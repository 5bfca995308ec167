section
variable {l : Launch} {g : pm_G} {A0 : pm_H} {K nn dn : Nat} {q : Nat → Nat} {w : Nat → Int32} {e : Nat → Nat → Int32} {v : Nat → Int32} {f : Nat → Nat → Int32}
set_option maxRecDepth 100000 in
set_option maxHeartbeats 2000000 in
theorem c_X5_answer__n (hI : cw_I K nn dn q w e) (hs : cw_S v f) (x1 : Int32) (p0 : 0 ≤ x1.toInt ∧ x1.toInt < 30) : pm_Mt l g 162 3 0 0 [.ref (q 9), .int x1, .null, .ref (q 2)] (cw A0 g K nn dn q w e v f) (cw_Qt A0 g K nn dn q (fun r w2 e2 => e2 15 = e 15 ∧ ((r = some (.int 1) ∧ ((w2 0).toInt = (w 0).toInt ∧ (w2 1).toInt = (w 1).toInt ∧ (w2 3).toInt = (w 3).toInt)) ∨ (r = some (.int 0) ∧ ((w2 0).toInt = (w 0).toInt ∧ (w2 1).toInt = (w 1).toInt ∧ (w2 3).toInt = (w 3).toInt))))) := by
  refine mt_X5_answer rfl (fun J hC => ?_)
  have hu1 := hI.2.1
  unfold cw_W at hu1
  have ro_nn : cw_ro K nn := hI.2.1.2.1
  have ro_dn : cw_ro K dn := hI.2.1.2.2.1
  have rg_x1 := pm_rng x1
  refine hC.1 0 0 _ _ rfl _ _ _ _ _ ?_
  refine Exists.intro _ (And.intro (cw_o9 hI.1) ?_)
  have km1 : (-1 : Int32).toInt = -1 := rfl
  refine Exists.intro _ (Exists.intro _ (And.intro (cw_a37 hI.1) (And.intro (by omega) ?_)))
  rw [cw_s37 hI.1]
  obtain ⟨e2, ee2⟩ : ∃ z9, z9 = va_up e 37 (upd (e 37) (x1).toInt.toNat (-1 : Int32)) := ⟨_, rfl⟩
  rw [← ee2]
  have hI2 : cw_I K nn dn q w e2 := ⟨hI.1, hI.2.1, hI.2.2.1, by rw [ee2]; exact cw_E_up hI.2.2.2 _ _ (fun h9 _ => absurd h9 (by decide)) (fun h9 _ => absurd h9 (by decide))⟩
  have hx2 : e2 15 = e 15 := (show e2 15 = e 15 by rw [ee2]; exact if_neg (by omega)).trans rfl
  refine Exists.intro _ (And.intro (cw_o9 hI2.1) ?_)
  refine Exists.intro _ (Exists.intro _ (And.intro (cw_a38 hI2.1) (And.intro (by omega) ?_)))
  rw [cw_s38 hI2.1]
  obtain ⟨e3, ee3⟩ : ∃ z9, z9 = va_up e2 38 (upd (e2 38) (x1).toInt.toNat (-1 : Int32)) := ⟨_, rfl⟩
  rw [← ee3]
  have hI3 : cw_I K nn dn q w e3 := ⟨hI2.1, hI2.2.1, hI2.2.2.1, by rw [ee3]; exact cw_E_up hI2.2.2.2 _ _ (fun h9 _ => absurd h9 (by decide)) (fun h9 _ => absurd h9 (by decide))⟩
  have hx3 : e3 15 = e 15 := (show e3 15 = e2 15 by rw [ee3]; exact if_neg (by omega)).trans hx2
  have k0 : (0 : Int32).toInt = 0 := rfl
  exact ⟨rfl, fun _ => (by decide), rfl, w, e3, v, f, rfl, hI3, hs, hx3, Or.inr ⟨rfl, by first | trivial | omega | (dsimp only; omega)⟩⟩

set_option maxRecDepth 100000 in
set_option maxHeartbeats 2000000 in
theorem c_X5_tell (hI : cw_I K nn dn q w e) (hs : cw_S v f) (x1 : Int32) (x2 : Int32)  : pm_Mt l g 164 0 0 0 [.ref (q 9), .int x1, .int x2] (cw A0 g K nn dn q w e v f) (md_Qp (cw A0 g K nn dn q w e v f) (fun r => True)) := by
  refine mt_X5_tell rfl (fun J hC => ?_)
  have hu1 := hI.2.1
  unfold cw_W at hu1
  have ro_nn : cw_ro K nn := hI.2.1.2.1
  have ro_dn : cw_ro K dn := hI.2.1.2.2.1
  have rg_x1 := pm_rng x1
  have rg_x2 := pm_rng x2
  refine hC.1 0 0 _ _ rfl _ _ _ _ _ ?_
  refine And.intro (fun c2 => ?_) (fun c2 => ?_)
  · skip
    refine hC.1 1 12 _ _ rfl _ _ _ _ _ ?_
    have km1 : (-1 : Int32).toInt = -1 := rfl
    exact ⟨rfl, fun e9 => absurd e9 (by decide), rfl, (-1 : Int32), rfl, rfl, by first | trivial | omega | (dsimp only; omega)⟩
  · skip
    refine Exists.intro _ (And.intro (cw_o9 hI.1) ?_)
    refine And.intro (fun c3 => ?_) (fun c3 => ?_)
    · skip
      refine hC.1 2 14 _ _ rfl _ _ _ _ _ ?_
      refine pm_swc 5 rfl (by decide) ?_ ?_
      · intro _
        refine hC.1 8 83 _ _ rfl _ _ _ _ _ ?_
        have km1 : (-1 : Int32).toInt = -1 := rfl
        exact ⟨rfl, fun e9 => absurd e9 (by decide), rfl, (-1 : Int32), rfl, rfl, by first | trivial | omega | (dsimp only; omega)⟩
      · intro i9 hi9 he9
        rcases (show i9 = 0 ∨ i9 = 1 ∨ i9 = 2 ∨ i9 = 3 ∨ i9 = 4 by omega) with rfl | rfl | rfl | rfl | rfl
        · skip
          refine hC.1 3 48 _ _ rfl _ _ _ _ _ ?_
          refine Exists.intro _ (And.intro (cw_o9 hI.1) ?_)
          refine Exists.intro _ (Exists.intro _ (And.intro (Or.inl (cw_a37 hI.1)) (And.intro (by omega) ?_)))
          exact ⟨rfl, fun e9 => absurd e9 (by decide), rfl, (e 37 (x1).toInt.toNat), rfl, rfl, by first | trivial | omega | (dsimp only; omega)⟩
        · skip
          refine hC.1 4 55 _ _ rfl _ _ _ _ _ ?_
          refine Exists.intro _ (And.intro (cw_o9 hI.1) ?_)
          refine Exists.intro _ (Exists.intro _ (And.intro (Or.inl (cw_a38 hI.1)) (And.intro (by omega) ?_)))
          exact ⟨rfl, fun e9 => absurd e9 (by decide), rfl, (e 38 (x1).toInt.toNat), rfl, rfl, by first | trivial | omega | (dsimp only; omega)⟩
        · skip
          refine hC.1 5 62 _ _ rfl _ _ _ _ _ ?_
          refine Exists.intro _ (And.intro (cw_o9 hI.1) ?_)
          refine Exists.intro _ (Exists.intro _ (And.intro (Or.inl (cw_a35 hI.1)) (And.intro (by omega) ?_)))
          exact ⟨rfl, fun e9 => absurd e9 (by decide), rfl, (e 35 (x1).toInt.toNat), rfl, rfl, by first | trivial | omega | (dsimp only; omega)⟩
        · skip
          refine hC.1 6 69 _ _ rfl _ _ _ _ _ ?_
          refine Exists.intro _ (And.intro (cw_o9 hI.1) ?_)
          refine Exists.intro _ (Exists.intro _ (And.intro (Or.inl (cw_a36 hI.1)) (And.intro (by omega) ?_)))
          exact ⟨rfl, fun e9 => absurd e9 (by decide), rfl, (e 36 (x1).toInt.toNat), rfl, rfl, by first | trivial | omega | (dsimp only; omega)⟩
        · skip
          refine hC.1 7 76 _ _ rfl _ _ _ _ _ ?_
          refine Exists.intro _ (And.intro (cw_o9 hI.1) ?_)
          refine Exists.intro _ (Exists.intro _ (And.intro (Or.inl (cw_a39 hI.1)) (And.intro (by omega) ?_)))
          exact ⟨rfl, fun e9 => absurd e9 (by decide), rfl, (e 39 (x1).toInt.toNat), rfl, rfl, by first | trivial | omega | (dsimp only; omega)⟩
    · skip
      refine hC.1 1 12 _ _ rfl _ _ _ _ _ ?_
      have km1 : (-1 : Int32).toInt = -1 := rfl
      exact ⟨rfl, fun e9 => absurd e9 (by decide), rfl, (-1 : Int32), rfl, rfl, by first | trivial | omega | (dsimp only; omega)⟩

end
