section
variable {l : Launch} {g : pm_G} {A0 : pm_H} {K nn dn : Nat} {q : Nat → Nat} {w : Nat → Int32} {e : Nat → Nat → Int32} {v : Nat → Int32} {f : Nat → Nat → Int32}
set_option maxRecDepth 100000 in
set_option maxHeartbeats 2000000 in
theorem c_X9_behind (hI : cw_I K nn dn q w e) (hs : cw_S v f) (x1 : Int32)  : pm_Mt l g 149 0 0 0 [.ref (q 1), .int x1] (cw A0 g K nn dn q w e v f) (fun r A9 => A9 = (cw A0 g K nn dn q w e v f) ∧ (r = some .null ∨ ∃ o9, r = some (.ref (q o9)) ∧ cw_ro K o9)) := by
  refine mt_X9_behind rfl (fun J hC => ?_)
  have ro_nn : cw_ro K nn := hI.2.1.2.1
  have ro_dn : cw_ro K dn := hI.2.1.2.2.1
  have hu1 := hI.2.1
  unfold cw_W at hu1
  have rg_x1 := pm_rng x1
  refine hC.1 0 0 _ _ rfl _ _ _ _ _ ?_
  refine And.intro (fun c2 => ?_) (fun c2 => ?_)
  · skip
    refine hC.1 1 27 _ _ rfl _ _ _ _ _ ?_
    have k0 : (0 : Int32).toInt = 0 := rfl
    refine hC.1 2 28 _ _ rfl _ _ _ _ _ ?_
    refine And.intro (fun _ => ?_) (fun c9 => absurd c9 (by decide))
    refine hC.1 3 45 _ _ rfl _ _ _ _ _ ?_
    refine hC.1 4 46 _ _ rfl _ _ _ _ _ ?_
    exact ⟨rfl, rfl, rfl, Or.inl rfl⟩
  · skip
    refine Exists.intro _ (And.intro (cw_o1 hI.1) ?_)
    refine And.intro (fun c3 => ?_) (fun c3 => ?_)
    · skip
      refine hC.1 1 27 _ _ rfl _ _ _ _ _ ?_
      have k0 : (0 : Int32).toInt = 0 := rfl
      refine hC.1 2 28 _ _ rfl _ _ _ _ _ ?_
      refine And.intro (fun _ => ?_) (fun c9 => absurd c9 (by decide))
      refine hC.1 3 45 _ _ rfl _ _ _ _ _ ?_
      refine hC.1 4 46 _ _ rfl _ _ _ _ _ ?_
      exact ⟨rfl, rfl, rfl, Or.inl rfl⟩
    · skip
      refine Exists.intro _ (And.intro (cw_o1 hI.1) ?_)
      have k40 : (40 : Int32).toInt = 40 := rfl
      intro m4 em_19
      try have e4 : m4.toInt = ((w 0)).toInt - (40) := by rw [em_19]; exact pm_subc _ _ (40) rfl (by omega) (by omega)
      refine And.intro (fun c5 => ?_) (fun c5 => ?_)
      · skip
        refine hC.1 1 27 _ _ rfl _ _ _ _ _ ?_
        have k0 : (0 : Int32).toInt = 0 := rfl
        refine hC.1 2 28 _ _ rfl _ _ _ _ _ ?_
        refine And.intro (fun _ => ?_) (fun c9 => absurd c9 (by decide))
        refine hC.1 3 45 _ _ rfl _ _ _ _ _ ?_
        refine hC.1 4 46 _ _ rfl _ _ _ _ _ ?_
        exact ⟨rfl, rfl, rfl, Or.inl rfl⟩
      · skip
        have k1 : (1 : Int32).toInt = 1 := rfl
        refine hC.1 2 28 _ _ rfl _ _ _ _ _ ?_
        refine And.intro (fun c9 => absurd c9 (by decide)) (fun _ => ?_)
        refine Exists.intro _ (And.intro (cw_o1 hI.1) ?_)
        have k41 : (41 : Int32).toInt = 41 := rfl
        refine And.intro (by decide) ?_
        intro m6 em_40
        try have e6 := pm_rem x1 (41 : Int32) (by omega) (by omega)
        try rw [← em_40] at e6
        refine Exists.intro _ (Exists.intro _ (And.intro (Or.inl (cw_rows hI.1)) (And.intro (by omega) ?_)))
        rcases cw_rr_c (K := K) q (m6).toInt.toNat with hr7 | ⟨o7, hr7, ho7⟩
        · skip
          rw [hr7]
          refine hC.1 4 46 _ _ rfl _ _ _ _ _ ?_
          exact ⟨rfl, rfl, rfl, Or.inl rfl⟩
        · skip
          rw [hr7]
          refine hC.1 4 46 _ _ rfl _ _ _ _ _ ?_
          exact ⟨rfl, rfl, rfl, Or.inr ⟨o7, rfl, ho7⟩⟩

end
