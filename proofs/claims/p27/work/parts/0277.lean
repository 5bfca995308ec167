section
variable {l : Launch} {g : pm_G} {A0 : pm_H} {K nn dn : Nat} {q : Nat → Nat} {w : Nat → Int32} {e : Nat → Nat → Int32} {v : Nat → Int32} {f : Nat → Nat → Int32}
set_option maxRecDepth 100000 in
set_option maxHeartbeats 2000000 in
theorem c_X10_suffices (hI : cw_I K nn dn q w e) (hs : cw_S v f) (x1 : Int32) (x2 : Int32)  : pm_Mt l g 127 3 0 0 [.ref (q 0), .int x1, .int x2] (cw A0 g K nn dn q w e v f) (cw_Qs A0 g K nn dn q w e (fun r v2 f2 => ∃ x : Int32, r = some (.int x) ∧ (True))) := by
  refine mt_X10_suffices rfl (fun J hC => ?_)
  have ro_nn : cw_ro K nn := hI.2.1.2.1
  have ro_dn : cw_ro K dn := hI.2.1.2.2.1
  have hu1 := hI.2.1
  unfold cw_W at hu1
  have rg_x1 := pm_rng x1
  have rg_x2 := pm_rng x2
  have zz0 := cw_sz hI ro_nn
  refine hC.1 0 0 _ _ rfl _ _ _ _ _ ?_
  refine And.intro (fun c2 => ?_) (fun c2 => ?_)
  · skip
    refine hC.1 1 6 _ _ rfl _ _ _ _ _ ?_
    have k1 : (1 : Int32).toInt = 1 := rfl
    have lp4 : ∀ (n : Nat) (z3_8 : Int32) (v3 : Nat → Int32) (f3 : Nat → Nat → Int32), cw_S v3 f3 → (1 ≤ z3_8.toInt ∧ z3_8.toInt ≤ 25) → 200 - z3_8.toInt < (n : Int) → J 8 [some (.ref (q 0)), some (.int x1), some (.int x2), some (.int z3_8)] [] (cw A0 g K nn dn q w e v3 f3) 0 0 := by
      intro n
      induction n with
      | zero =>
        intro z3_8 v3 f3 hs3 j0_8 j1_8
        omega
      | succ n ih5 =>
        intro z3_8 v3 f3 hs3 j0_8 j1_8
        refine hC.1 2 8 _ _ rfl _ _ _ _ _ ?_
        have k24 : (24 : Int32).toInt = 24 := rfl
        refine And.intro (fun c6 => ?_) (fun c6 => ?_)
        · skip
          refine hC.1 4 69 _ _ rfl _ _ _ _ _ ?_
          have km1 : (-1 : Int32).toInt = -1 := rfl
          exact ⟨rfl, fun e9 => absurd e9 (by decide), rfl, v3, f3, rfl, hs3, (-1 : Int32), rfl, by exact True.intro⟩
        · skip
          refine Exists.intro _ (Exists.intro _ (Exists.intro _ (Exists.intro _ (And.intro (c_X8_canBe (cw A0 g K nn dn q w e v3 f3) z3_8 x2 ) (And.intro rfl (fun r9 A9 h9 => ?_))))))
          rcases h9 with ⟨y7, rfl, rfl, ⟨rfl, by7⟩ | ⟨rfl, by7⟩⟩
          · skip
            refine And.intro (fun c9 => absurd c9 (by decide)) (fun _ => ?_)
            refine Exists.intro _ (And.intro (cw_o0 hI.1) ?_)
            refine Exists.intro _ (And.intro (cw_o0 hI.1) ?_)
            refine Exists.intro _ (And.intro (cw_o1 hI.1) ?_)
            refine Exists.intro _ (And.intro (cw_o0 hI.1) ?_)
            refine Exists.intro _ (And.intro (cw_o1 hI.1) ?_)
            refine Exists.intro _ (And.intro (cw_ro_o hI.1 ro_nn) ?_)
            have z9 := cw_sz hI ro_nn
            intro m10 em_44
            try have e10 : m10.toInt = ((w nn)).toInt - (1) := by rw [em_44]; exact pm_subc _ _ (1) rfl (by omega) (by omega)
            refine And.intro (Exists.intro _ (cw_o6 hI.1)) (Exists.intro _ (Exists.intro _ (Exists.intro _ (Exists.intro _ (And.intro (c_X8_goThrough hI hs3 ro_nn m10 z3_8 x2 ) (And.intro rfl (fun r9 A9 h9 => ?_)))))))
            rcases h9 with ⟨v12, f12, rfl, hs12, rfl, by11⟩
            refine Exists.intro _ (And.intro (cw_o0 hI.1) ?_)
            refine Exists.intro _ (And.intro (cw_o6 hI.1) ?_)
            refine And.intro (fun c13 => ?_) (fun c13 => ?_)
            · skip
              refine hC.1 3 63 _ _ rfl _ _ _ _ _ ?_
              intro m14 em_63
              try have e14 : m14.toInt = (z3_8).toInt + (1) := by rw [em_63]; exact pm_addc _ _ (1) rfl (by omega) (by omega)
              exact ih5 m14 v12 f12 hs12 (by omega) (by omega)
            · skip
              exact ⟨rfl, fun e9 => absurd e9 (by decide), rfl, v12, f12, rfl, hs12, z3_8, rfl, by exact True.intro⟩
          · skip
            have k0 : (0 : Int32).toInt = 0 := rfl
            refine And.intro (fun _ => ?_) (fun c9 => absurd c9 (by decide))
            refine hC.1 4 69 _ _ rfl _ _ _ _ _ ?_
            have km1 : (-1 : Int32).toInt = -1 := rfl
            exact ⟨rfl, fun e9 => absurd e9 (by decide), rfl, v3, f3, rfl, hs3, (-1 : Int32), rfl, by exact True.intro⟩
    exact lp4 (200 - (1 : Int32).toInt).toNat.succ (1 : Int32) v f hs (by omega) (by omega)
  · skip
    have km1 : (-1 : Int32).toInt = -1 := rfl
    exact ⟨rfl, fun e9 => absurd e9 (by decide), rfl, v, f, rfl, hs, (-1 : Int32), rfl, by exact True.intro⟩

end
