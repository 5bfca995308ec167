section
variable {l : Launch} {g : pm_G} {A0 : pm_H} {K nn dn : Nat} {q : Nat → Nat} {w : Nat → Int32} {e : Nat → Nat → Int32} {v : Nat → Int32} {f : Nat → Nat → Int32}
set_option maxRecDepth 100000 in
set_option maxHeartbeats 2000000 in
theorem V_X10_about (hI : cw_I K nn dn q w e) (hs : cw_S v f) (x1 : Int32)  : pm_Mt l g 53 4 0 0 [.ref (q 0), .int x1] (cw A0 g K nn dn q w e v f) (cw_Qs A0 g K nn dn q w e (fun r v2 f2 => ∃ x : Int32, r = some (.int x) ∧ ((True) ∧ (x.toInt = ABT (w nn) (w 1) (w 0) (w 2) (w 3) (e (nn + 1)) x1.toInt)))) := by
  refine mt_X10_about rfl (fun J hC => ?_)
  have ro_nn : cw_ro K nn := hI.2.1.2.1
  have ro_dn : cw_ro K dn := hI.2.1.2.2.1
  have hu1 := hI.2.1
  unfold cw_W at hu1
  have rg_x1 := pm_rng x1
  have zz0 := cw_sz hI ro_nn
  refine hC.1 0 0 _ _ rfl _ _ _ _ _ ?_
  refine pm_swc 6 rfl (by decide) ?_ ?_
  · intro _
    refine hC.1 7 108 _ _ rfl _ _ _ _ _ ?_
    have km1 : (-1 : Int32).toInt = -1 := rfl
    exact ⟨rfl, fun e9 => absurd e9 (by decide), rfl, v, f, rfl, hs, (-1 : Int32), rfl, by exact True.intro, by first | (exact (ABT_0 (by omega)).symm) | (rw [ABT_1 (by omega)]; refine yf_9.trans ?_; congr 3 <;> omega) | (exact (ABT_2 (by omega)).symm) | (exact (ABT_3 (by omega)).symm) | (exact (ABT_4 (by omega)).symm) | (exact (ABT_5 (by omega)).symm) | (exact (ABT_d (by omega)).symm)⟩
  · intro i9 hi9 he9
    rcases (show i9 = 0 ∨ i9 = 1 ∨ i9 = 2 ∨ i9 = 3 ∨ i9 = 4 ∨ i9 = 5 by omega) with rfl | rfl | rfl | rfl | rfl | rfl
    · skip
      refine hC.1 1 40 _ _ rfl _ _ _ _ _ ?_
      refine Exists.intro _ (And.intro (cw_o0 hI.1) ?_)
      refine Exists.intro _ (And.intro (cw_o1 hI.1) ?_)
      refine Exists.intro _ (And.intro (cw_ro_o hI.1 ro_nn) ?_)
      have z4 := cw_sz hI ro_nn
      exact ⟨rfl, fun e9 => absurd e9 (by decide), rfl, v, f, rfl, hs, (w nn), rfl, by exact True.intro, by first | (exact (ABT_0 (by omega)).symm) | (rw [ABT_1 (by omega)]; refine yf_9.trans ?_; congr 3 <;> omega) | (exact (ABT_2 (by omega)).symm) | (exact (ABT_3 (by omega)).symm) | (exact (ABT_4 (by omega)).symm) | (exact (ABT_5 (by omega)).symm) | (exact (ABT_d (by omega)).symm)⟩
    · skip
      refine hC.1 2 51 _ _ rfl _ _ _ _ _ ?_
      refine Exists.intro _ (And.intro (cw_o0 hI.1) ?_)
      refine Exists.intro _ (And.intro (cw_o1 hI.1) ?_)
      have k0 : (0 : Int32).toInt = 0 := rfl
      refine Exists.intro _ (And.intro (cw_o0 hI.1) ?_)
      refine Exists.intro _ (And.intro (cw_o1 hI.1) ?_)
      refine Exists.intro _ (And.intro (cw_ro_o hI.1 ro_nn) ?_)
      have z5 := cw_sz hI ro_nn
      have k1 : (1 : Int32).toInt = 1 := rfl
      intro m6 em_71
      try have e6 : m6.toInt = ((w nn)).toInt - (1) := by rw [em_71]; exact pm_subc _ _ (1) rfl (by omega) (by omega)
      refine And.intro (Exists.intro _ (cw_o0 hI.1)) (Exists.intro _ (Exists.intro _ (Exists.intro _ (Exists.intro _ (And.intro (F_X10_colourNumber hI hs ro_nn (0 : Int32) m6 (by omega)) (And.intro rfl (fun r9 A9 h9 => ?_)))))))
      rcases h9 with ⟨v8, f8, rfl, hs8, y7, rfl, by7⟩
      have yf_9 := by7.2
      exact ⟨rfl, fun e9 => absurd e9 (by decide), rfl, v8, f8, rfl, hs8, y7, rfl, by exact True.intro, by first | (exact (ABT_0 (by omega)).symm) | (rw [ABT_1 (by omega)]; refine yf_9.trans ?_; congr 3 <;> omega) | (exact (ABT_2 (by omega)).symm) | (exact (ABT_3 (by omega)).symm) | (exact (ABT_4 (by omega)).symm) | (exact (ABT_5 (by omega)).symm) | (exact (ABT_d (by omega)).symm)⟩
    · skip
      refine hC.1 3 76 _ _ rfl _ _ _ _ _ ?_
      refine Exists.intro _ (And.intro (cw_o0 hI.1) ?_)
      refine Exists.intro _ (And.intro (cw_o1 hI.1) ?_)
      exact ⟨rfl, fun e9 => absurd e9 (by decide), rfl, v, f, rfl, hs, (w 1), rfl, by exact True.intro, by first | (exact (ABT_0 (by omega)).symm) | (rw [ABT_1 (by omega)]; refine yf_9.trans ?_; congr 3 <;> omega) | (exact (ABT_2 (by omega)).symm) | (exact (ABT_3 (by omega)).symm) | (exact (ABT_4 (by omega)).symm) | (exact (ABT_5 (by omega)).symm) | (exact (ABT_d (by omega)).symm)⟩
    · skip
      refine hC.1 4 84 _ _ rfl _ _ _ _ _ ?_
      refine Exists.intro _ (And.intro (cw_o0 hI.1) ?_)
      refine Exists.intro _ (And.intro (cw_o1 hI.1) ?_)
      exact ⟨rfl, fun e9 => absurd e9 (by decide), rfl, v, f, rfl, hs, (w 0), rfl, by exact True.intro, by first | (exact (ABT_0 (by omega)).symm) | (rw [ABT_1 (by omega)]; refine yf_9.trans ?_; congr 3 <;> omega) | (exact (ABT_2 (by omega)).symm) | (exact (ABT_3 (by omega)).symm) | (exact (ABT_4 (by omega)).symm) | (exact (ABT_5 (by omega)).symm) | (exact (ABT_d (by omega)).symm)⟩
    · skip
      refine hC.1 5 92 _ _ rfl _ _ _ _ _ ?_
      refine Exists.intro _ (And.intro (cw_o0 hI.1) ?_)
      refine Exists.intro _ (And.intro (cw_o1 hI.1) ?_)
      exact ⟨rfl, fun e9 => absurd e9 (by decide), rfl, v, f, rfl, hs, (w 2), rfl, by exact True.intro, by first | (exact (ABT_0 (by omega)).symm) | (rw [ABT_1 (by omega)]; refine yf_9.trans ?_; congr 3 <;> omega) | (exact (ABT_2 (by omega)).symm) | (exact (ABT_3 (by omega)).symm) | (exact (ABT_4 (by omega)).symm) | (exact (ABT_5 (by omega)).symm) | (exact (ABT_d (by omega)).symm)⟩
    · skip
      refine hC.1 6 100 _ _ rfl _ _ _ _ _ ?_
      refine Exists.intro _ (And.intro (cw_o0 hI.1) ?_)
      refine Exists.intro _ (And.intro (cw_o9 hI.1) ?_)
      exact ⟨rfl, fun e9 => absurd e9 (by decide), rfl, v, f, rfl, hs, (w 3), rfl, by exact True.intro, by first | (exact (ABT_0 (by omega)).symm) | (rw [ABT_1 (by omega)]; refine yf_9.trans ?_; congr 3 <;> omega) | (exact (ABT_2 (by omega)).symm) | (exact (ABT_3 (by omega)).symm) | (exact (ABT_4 (by omega)).symm) | (exact (ABT_5 (by omega)).symm) | (exact (ABT_d (by omega)).symm)⟩

end
