section
variable {l : Launch} {g : pm_G} {A0 : pm_H} {K nn dn : Nat} {q : Nat → Nat} {w : Nat → Int32} {e : Nat → Nat → Int32} {v : Nat → Int32} {f : Nat → Nat → Int32}
set_option maxRecDepth 100000 in
set_option maxHeartbeats 2000000 in
theorem c_X4_findTwin (hI : cw_I K nn dn q w e) (hs : cw_S v f) {o1 : Nat} (ho1 : cw_ro K o1)  : pm_Mt l g 139 2 0 0 [.ref (q 7), .ref (q o1)] (cw A0 g K nn dn q w e v f) (cw_Qs A0 g K nn dn q w e (fun r v2 f2 => r = none ∧ (True))) := by
  refine mt_X4_findTwin rfl (fun J hC => ?_)
  have ro_nn : cw_ro K nn := hI.2.1.2.1
  have ro_dn : cw_ro K dn := hI.2.1.2.2.1
  have hu1 := hI.2.1
  unfold cw_W at hu1
  have zz0 := cw_sz hI ho1
  refine hC.1 0 0 _ _ rfl _ _ _ _ _ ?_
  have km1 : (-1 : Int32).toInt = -1 := rfl
  refine Exists.intro _ (And.intro (cw_o7 hI.1) (And.intro rfl ?_))
  rw [cw_p_twinFirst hI.1]
  obtain ⟨v2, ev2⟩ : ∃ z9, z9 = upd v 13 (-1 : Int32) := ⟨_, rfl⟩
  rw [← ev2]
  have hs2 : cw_S v2 f := by rw [ev2]; exact cw_S_v hs 13 _ (by decide)
  have ev2_0 : (v2 0).toInt = (v 0).toInt := by rw [ev2]; rfl
  have k0 : (0 : Int32).toInt = 0 := rfl
  refine Exists.intro _ (And.intro (cw_o7 hI.1) (And.intro rfl ?_))
  rw [cw_p_twinLength hI.1]
  obtain ⟨v3, ev3⟩ : ∃ z9, z9 = upd v2 14 (0 : Int32) := ⟨_, rfl⟩
  rw [← ev3]
  have hs3 : cw_S v3 f := by rw [ev3]; exact cw_S_v hs2 14 _ (by decide)
  have ev3_0 : (v3 0).toInt = (v2 0).toInt := by rw [ev3]; rfl
  have k1 : (1 : Int32).toInt = 1 := rfl
  have lp5 : ∀ (n : Nat) (z2_12 : Int32) (v4 : Nat → Int32) (f4 : Nat → Nat → Int32), cw_S v4 f4 → (1 ≤ z2_12.toInt ∧ z2_12.toInt ≤ 161) → 200 - z2_12.toInt < (n : Int) → J 12 [some (.ref (q 7)), some (.ref (q o1)), some (.int z2_12)] [] (cw A0 g K nn dn q w e v4 f4) 0 0 := by
    intro n
    induction n with
    | zero =>
      intro z2_12 v4 f4 hs4 j0_12 j1_12
      omega
    | succ n ih6 =>
      intro z2_12 v4 f4 hs4 j0_12 j1_12
      refine hC.1 1 12 _ _ rfl _ _ _ _ _ ?_
      refine Exists.intro _ (And.intro (cw_ro_o hI.1 ho1) ?_)
      have z7 := cw_sz hI ho1
      refine And.intro (fun c8 => ?_) (fun c8 => ?_)
      · skip
        refine hC.1 2 32 _ _ rfl _ _ _ _ _ ?_
        exact ⟨rfl, rfl, v4, f4, rfl, hs4, rfl, by exact True.intro⟩
      · skip
        refine And.intro (Exists.intro _ (cw_o7 hI.1)) (Exists.intro _ (Exists.intro _ (Exists.intro _ (Exists.intro _ (And.intro (c_X4_findTwinApart hI hs4 ho1 z2_12 (by omega)) (And.intro rfl (fun r9 A9 h9 => ?_)))))))
        rcases h9 with ⟨v10, f10, rfl, hs10, rfl, by9⟩
        intro m11 em_26
        try have e11 : m11.toInt = (z2_12).toInt + (1) := by rw [em_26]; exact pm_addc _ _ (1) rfl (by omega) (by omega)
        exact ih6 m11 v10 f10 hs10 (by omega) (by omega)
  exact lp5 (200 - (1 : Int32).toInt).toNat.succ (1 : Int32) v3 f hs3 (by omega) (by omega)

end
