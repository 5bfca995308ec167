section
variable {l : Launch} {g : pm_G} {A0 : pm_H} {K nn dn : Nat} {q : Nat → Nat} {w : Nat → Int32} {e : Nat → Nat → Int32} {v : Nat → Int32} {f : Nat → Nat → Int32}
set_option maxRecDepth 100000 in
set_option maxHeartbeats 2000000 in
theorem c_X3_worthOf (hI : cw_I K nn dn q w e) (hs : cw_S v f) (x1 : Int32) (x2 : Int32)  : pm_Mt l g 145 0 0 0 [.ref (q 8), .int x1, .int x2] (cw A0 g K nn dn q w e v f) (md_Qp (cw A0 g K nn dn q w e v f) (fun r => True)) := by
  refine mt_X3_worthOf rfl (fun J hC => ?_)
  have ro_nn : cw_ro K nn := hI.2.1.2.1
  have ro_dn : cw_ro K dn := hI.2.1.2.2.1
  have hu1 := hI.2.1
  unfold cw_W at hu1
  have rg_x1 := pm_rng x1
  have rg_x2 := pm_rng x2
  refine hC.1 0 0 _ _ rfl _ _ _ _ _ ?_
  refine And.intro (fun c2 => ?_) (fun c2 => ?_)
  · skip
    refine hC.1 1 25 _ _ rfl _ _ _ _ _ ?_
    have k0 : (0 : Int32).toInt = 0 := rfl
    refine hC.1 2 26 _ _ rfl _ _ _ _ _ ?_
    refine And.intro (fun _ => ?_) (fun c9 => absurd c9 (by decide))
    refine hC.1 3 42 _ _ rfl _ _ _ _ _ ?_
    have km1 : (-1 : Int32).toInt = -1 := rfl
    refine hC.1 4 43 _ _ rfl _ _ _ _ _ ?_
    exact ⟨rfl, fun e9 => absurd e9 (by decide), rfl, (-1 : Int32), rfl, rfl, by exact True.intro⟩
  · skip
    have k8 : (8 : Int32).toInt = 8 := rfl
    refine And.intro (fun c3 => ?_) (fun c3 => ?_)
    · skip
      refine hC.1 1 25 _ _ rfl _ _ _ _ _ ?_
      have k0 : (0 : Int32).toInt = 0 := rfl
      refine hC.1 2 26 _ _ rfl _ _ _ _ _ ?_
      refine And.intro (fun _ => ?_) (fun c9 => absurd c9 (by decide))
      refine hC.1 3 42 _ _ rfl _ _ _ _ _ ?_
      have km1 : (-1 : Int32).toInt = -1 := rfl
      refine hC.1 4 43 _ _ rfl _ _ _ _ _ ?_
      exact ⟨rfl, fun e9 => absurd e9 (by decide), rfl, (-1 : Int32), rfl, rfl, by exact True.intro⟩
    · skip
      refine And.intro (fun c4 => ?_) (fun c4 => ?_)
      · skip
        refine hC.1 1 25 _ _ rfl _ _ _ _ _ ?_
        have k0 : (0 : Int32).toInt = 0 := rfl
        refine hC.1 2 26 _ _ rfl _ _ _ _ _ ?_
        refine And.intro (fun _ => ?_) (fun c9 => absurd c9 (by decide))
        refine hC.1 3 42 _ _ rfl _ _ _ _ _ ?_
        have km1 : (-1 : Int32).toInt = -1 := rfl
        refine hC.1 4 43 _ _ rfl _ _ _ _ _ ?_
        exact ⟨rfl, fun e9 => absurd e9 (by decide), rfl, (-1 : Int32), rfl, rfl, by exact True.intro⟩
      · skip
        have k160 : (160 : Int32).toInt = 160 := rfl
        refine And.intro (fun c5 => ?_) (fun c5 => ?_)
        · skip
          refine hC.1 1 25 _ _ rfl _ _ _ _ _ ?_
          have k0 : (0 : Int32).toInt = 0 := rfl
          refine hC.1 2 26 _ _ rfl _ _ _ _ _ ?_
          refine And.intro (fun _ => ?_) (fun c9 => absurd c9 (by decide))
          refine hC.1 3 42 _ _ rfl _ _ _ _ _ ?_
          have km1 : (-1 : Int32).toInt = -1 := rfl
          refine hC.1 4 43 _ _ rfl _ _ _ _ _ ?_
          exact ⟨rfl, fun e9 => absurd e9 (by decide), rfl, (-1 : Int32), rfl, rfl, by exact True.intro⟩
        · skip
          have k1 : (1 : Int32).toInt = 1 := rfl
          refine hC.1 2 26 _ _ rfl _ _ _ _ _ ?_
          refine And.intro (fun c9 => absurd c9 (by decide)) (fun _ => ?_)
          refine Exists.intro _ (And.intro (cw_o8 hI.1) ?_)
          refine Exists.intro _ (Exists.intro _ (And.intro (Or.inr (cw_worths hI.1)) (And.intro (by omega) ?_)))
          have hw6 : (x1).toInt.toNat < 9 := by omega
          rw [cw_ww_lt hw6]
          refine Exists.intro _ (Exists.intro _ (And.intro (Or.inl (cw_wr hI.1 hw6)) (And.intro (by omega) ?_)))
          refine hC.1 4 43 _ _ rfl _ _ _ _ _ ?_
          exact ⟨rfl, fun e9 => absurd e9 (by decide), rfl, (f (26 + (x1).toInt.toNat) (x2).toInt.toNat), rfl, rfl, by exact True.intro⟩

end
