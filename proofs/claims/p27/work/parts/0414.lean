section
variable {l : Launch} {g : pm_G} {A0 : pm_H} {K nn dn : Nat} {q : Nat → Nat} {w : Nat → Int32} {e : Nat → Nat → Int32} {v : Nat → Int32} {f : Nat → Nat → Int32}
set_option maxRecDepth 100000 in
set_option maxHeartbeats 2000000 in
theorem F_X10_absent (hI : cw_I K nn dn q w e) (hs : cw_S v f) (x1 : Int32) (x2 : Int32) (x3 : Int32)  : pm_Mt l g 73 4 0 0 [.ref (q 0), .int x1, .int x2, .int x3] (cw A0 g K nn dn q w e v f) (cw_Qs A0 g K nn dn q w e (fun r v2 f2 => ∃ x : Int32, r = some (.int x) ∧ ((True) ∧ (ABS (e (nn + 1)) (w nn).toInt x1.toInt x2.toInt x3.toInt x.toInt)))) := by
  refine mt_X10_absent rfl (fun J hC => ?_)
  have ro_nn : cw_ro K nn := hI.2.1.2.1
  have ro_dn : cw_ro K dn := hI.2.1.2.2.1
  have hu1 := hI.2.1
  unfold cw_W at hu1
  have rg_x1 := pm_rng x1
  have rg_x2 := pm_rng x2
  have rg_x3 := pm_rng x3
  refine hC.1 0 0 _ _ rfl _ _ _ _ _ ?_
  refine And.intro (Exists.intro _ (cw_o0 hI.1)) (Exists.intro _ (Exists.intro _ (Exists.intro _ (Exists.intro _ (And.intro (F_X10_readSpan hI hs x1 x2 ) (And.intro rfl (fun r9 A9 h9 => ?_)))))))
  rcases h9 with ⟨v3, f3, rfl, hs3, hzy2⟩
  rcases hzy2 with ⟨rfl, by2⟩ | ⟨rfl, by2⟩
  · skip
    have k1 : (1 : Int32).toInt = 1 := rfl
    have hs9 := by2.1
    have hr9 := by2.2
    refine And.intro (fun c9 => absurd c9 (by decide)) (fun _ => ?_)
    refine Exists.intro _ (And.intro (cw_o0 hI.1) ?_)
    have k16777215 : (16777215 : Int32).toInt = 16777215 := rfl
    refine Exists.intro _ (And.intro (cw_o0 hI.1) ?_)
    refine Exists.intro _ (And.intro (cw_o2 hI.1) ?_)
    have km1 : (-1 : Int32).toInt = -1 := rfl
    refine And.intro (Exists.intro _ (cw_o3 hI.1)) (Exists.intro _ (Exists.intro _ (Exists.intro _ (Exists.intro _ (And.intro (F_X0_colourOf hI hs3 ((16777215 : Int32) &&& ((v3 3) ^^^ (-1 : Int32))) x3 ) (And.intro rfl (fun r9 A9 h9 => ?_)))))))
    obtain ⟨y4, rfl, rfl, by4⟩ := h9
    have hk9 := by4
    refine hC.1 2 33 _ _ rfl _ _ _ _ _ ?_
    exact ⟨rfl, fun e9 => absurd e9 (by decide), rfl, v3, f3, rfl, hs3, y4, rfl, by exact True.intro, by first | (exact Or.inl ⟨by omega, rfl⟩) | (have h7 := NTH_cv AB_c hk9; rw [PAL_set (fun j9 => cw_col hI ro_nn j9) hr9] at h7; by_cases h6 : 0 ≤ x3.toInt; (exact Or.inr ⟨hs9, h6, h7⟩); (exact Or.inl ⟨by omega, NTH_neg h7 (by omega)⟩))⟩
  · skip
    have k0 : (0 : Int32).toInt = 0 := rfl
    have hs9 := by2
    refine And.intro (fun _ => ?_) (fun c9 => absurd c9 (by decide))
    refine hC.1 1 32 _ _ rfl _ _ _ _ _ ?_
    have km1 : (-1 : Int32).toInt = -1 := rfl
    refine hC.1 2 33 _ _ rfl _ _ _ _ _ ?_
    exact ⟨rfl, fun e9 => absurd e9 (by decide), rfl, v3, f3, rfl, hs3, (-1 : Int32), rfl, by exact True.intro, by first | (exact Or.inl ⟨by omega, rfl⟩) | (have h7 := NTH_cv AB_c hk9; rw [PAL_set (fun j9 => cw_col hI ro_nn j9) hr9] at h7; by_cases h6 : 0 ≤ x3.toInt; (exact Or.inr ⟨hs9, h6, h7⟩); (exact Or.inl ⟨by omega, NTH_neg h7 (by omega)⟩))⟩

end
