section
variable {l : Launch} {g : pm_G} {A0 : pm_H} {K nn dn : Nat} {q : Nat → Nat} {w : Nat → Int32} {e : Nat → Nat → Int32} {v : Nat → Int32} {f : Nat → Nat → Int32}
set_option maxRecDepth 100000 in
set_option maxHeartbeats 2000000 in
theorem V_X7_hasName (hI : cw_I K nn dn q w e) (hs : cw_S v f) {o0 : Nat} (ho0 : cw_ro K o0) (x1 : Int32)  : pm_Mt l g 154 1 0 0 [.ref (q o0), .int x1] (cw A0 g K nn dn q w e v f) (md_Qp (cw A0 g K nn dn q w e v f) (fun r => (r = 1 ∧ (0 ≤ nextEq (e (o0 + 2)) x1 0 (w o0).toInt.toNat)) ∨ (r = 0 ∧ (¬ (0 ≤ nextEq (e (o0 + 2)) x1 0 (w o0).toInt.toNat))))) := by
  refine mt_X7_hasName rfl (fun J hC => ?_)
  have ro_nn : cw_ro K nn := hI.2.1.2.1
  have ro_dn : cw_ro K dn := hI.2.1.2.2.1
  have hu1 := hI.2.1
  unfold cw_W at hu1
  have rg_x1 := pm_rng x1
  have zz0 := cw_sz hI ho0
  refine hC.1 0 0 _ _ rfl _ _ _ _ _ ?_
  refine And.intro (Exists.intro _ (cw_ro_o hI.1 ho0)) (Exists.intro _ (Exists.intro _ (Exists.intro _ (Exists.intro _ (And.intro (F_X7_placeOf hI hs ho0 x1 ) (And.intro rfl (fun r9 A9 h9 => ?_)))))))
  obtain ⟨y2, rfl, rfl, by2⟩ := h9
  have yf_9 := FST_n (by omega) by2.2
  have km1 : (-1 : Int32).toInt = -1 := rfl
  refine And.intro (fun c4 => ?_) (fun c4 => ?_)
  · skip
    have dc4 : (y2).toInt = ((-1 : Int32) : Int32).toInt := congrArg Int32.toInt c4
    refine hC.1 1 13 _ _ rfl _ _ _ _ _ ?_
    have k0 : (0 : Int32).toInt = 0 := rfl
    refine hC.1 2 14 _ _ rfl _ _ _ _ _ ?_
    exact ⟨rfl, fun _ => (by decide), rfl, (0 : Int32), rfl, rfl, Or.inr ⟨rfl, by first | omega | (dsimp only; omega) | trivial⟩⟩
  · skip
    have dc4 := pm_neI c4
    have k1 : (1 : Int32).toInt = 1 := rfl
    refine hC.1 2 14 _ _ rfl _ _ _ _ _ ?_
    exact ⟨rfl, fun _ => (by decide), rfl, (1 : Int32), rfl, rfl, Or.inl ⟨rfl, by first | omega | (dsimp only; omega) | trivial⟩⟩

end
