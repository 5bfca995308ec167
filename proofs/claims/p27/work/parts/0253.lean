section
variable {l : Launch} {g : pm_G} {A0 : pm_H} {K nn dn : Nat} {q : Nat → Nat} {w : Nat → Int32} {e : Nat → Nat → Int32} {v : Nat → Int32} {f : Nat → Nat → Int32}
set_option maxRecDepth 100000 in
set_option maxHeartbeats 2000000 in
theorem c_X3_lastPlaceOf (hI : cw_I K nn dn q w e) (hs : cw_S v f) {o1 : Nat} (ho1 : cw_ro K o1) (x3 : Int32) (x4 : Int32) (p0 : 0 ≤ x4.toInt ∧ x4.toInt ≤ 8) : pm_Mt l g 146 3 0 0 [.ref (q 8), .ref (q o1), .ref (q 2), .int x3, .int x4] (cw A0 g K nn dn q w e v f) (cw_Qs A0 g K nn dn q w e (fun r v2 f2 => ∃ x : Int32, r = some (.int x) ∧ (True))) := by
  refine mt_X3_lastPlaceOf rfl (fun J hC => ?_)
  have ro_nn : cw_ro K nn := hI.2.1.2.1
  have ro_dn : cw_ro K dn := hI.2.1.2.2.1
  have hu1 := hI.2.1
  unfold cw_W at hu1
  have rg_x3 := pm_rng x3
  have rg_x4 := pm_rng x4
  refine hC.1 0 0 _ _ rfl _ _ _ _ _ ?_
  have km1 : (-1 : Int32).toInt = -1 := rfl
  have k0 : (0 : Int32).toInt = 0 := rfl
  have lp3 : ∀ (n : Nat) (z5_6 : Int32) (z6_6 : Int32) (v2 : Nat → Int32) (f2 : Nat → Nat → Int32), cw_S v2 f2 → (-1 ≤ z5_6.toInt ∧ z5_6.toInt ≤ 159) → (0 ≤ z6_6.toInt ∧ z6_6.toInt ≤ 9) → 200 - z6_6.toInt < (n : Int) → J 6 [some (.ref (q 8)), some (.ref (q o1)), some (.ref (q 2)), some (.int x3), some (.int x4), some (.int z5_6), some (.int z6_6)] [] (cw A0 g K nn dn q w e v2 f2) 0 0 := by
    intro n
    induction n with
    | zero =>
      intro z5_6 z6_6 v2 f2 hs2 j0_6 j1_6 j2_6
      omega
    | succ n ih4 =>
      intro z5_6 z6_6 v2 f2 hs2 j0_6 j1_6 j2_6
      refine hC.1 1 6 _ _ rfl _ _ _ _ _ ?_
      refine And.intro (fun c5 => ?_) (fun c5 => ?_)
      · skip
        refine hC.1 2 35 _ _ rfl _ _ _ _ _ ?_
        exact ⟨rfl, fun e9 => absurd e9 (by decide), rfl, v2, f2, rfl, hs2, z5_6, rfl, by exact True.intro⟩
      · skip
        have k1 : (1 : Int32).toInt = 1 := rfl
        intro m6 em_19
        try have e6 : m6.toInt = (z5_6).toInt + (1) := by rw [em_19]; exact pm_addc _ _ (1) rfl (by omega) (by omega)
        intro m7 em_23
        try have e7 : m7.toInt = (x3).toInt - (z6_6).toInt := by rw [em_23]; exact pm_sub _ _ (by omega) (by omega)
        refine And.intro (Exists.intro _ (cw_o8 hI.1)) (Exists.intro _ (Exists.intro _ (Exists.intro _ (Exists.intro _ (And.intro (c_X3_shortestBestEnd hI hs2 ho1 m6 m7 (by omega)) (And.intro rfl (fun r9 A9 h9 => ?_)))))))
        rcases h9 with ⟨v9, f9, rfl, hs9, y8, rfl, by8⟩
        intro m10 em_29
        try have e10 : m10.toInt = (z6_6).toInt + (1) := by rw [em_29]; exact pm_addc _ _ (1) rfl (by omega) (by omega)
        exact ih4 y8 m10 v9 f9 hs9 (by omega) (by omega) (by omega)
  exact lp3 (200 - (0 : Int32).toInt).toNat.succ (-1 : Int32) (0 : Int32) v f hs (by omega) (by omega) (by omega)

end
