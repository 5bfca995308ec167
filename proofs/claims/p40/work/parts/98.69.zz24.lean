section
variable {l : Launch} {g : pm_G} {A0 : pm_H} {K nn dn : Nat} {q : Nat → Nat} {w : Nat → Int32} {e : Nat → Nat → Int32} {v : Nat → Int32} {f : Nat → Nat → Int32}
set_option maxRecDepth 100000 in
set_option maxHeartbeats 2000000 in
theorem V_X10_forget (hI : cw_I K nn dn q w e) (hs : cw_S v f)   : pm_Mt l g 165 0 0 0 [.ref (q 0)] (cw A0 g K nn dn q w e v f) (cw_Qt A0 g K nn dn q (fun r w2 e2 => e2 15 = e 15 ∧ (∃ x : Int32, r = some (.int x) ∧ (((w2 0).toInt = (w 0).toInt ∧ (w2 1).toInt = (w 1).toInt ∧ (w2 2).toInt = (w 2).toInt) ∧ ((∀ i9, 40 ≤ i9 → w2 i9 = w i9 ∧ e2 i9 = e i9) ∧ (x = w 3 ∧ (w2 3).toInt = 0) ∧ ∀ i9, e2 i9 = e i9))))) := by
  refine mt_X10_forget rfl (fun J hC => ?_)
  have ro_nn : cw_ro K nn := hI.2.1.2.1
  have ro_dn : cw_ro K dn := hI.2.1.2.2.1
  have hu1 := hI.2.1
  unfold cw_W at hu1
  refine hC.1 0 0 _ _ rfl _ _ _ _ _ ?_
  refine Exists.intro _ (And.intro (cw_o0 hI.1) ?_)
  refine Exists.intro _ (And.intro (cw_o9 hI.1) ?_)
  refine Exists.intro _ (And.intro (cw_o0 hI.1) ?_)
  have k0 : (0 : Int32).toInt = 0 := rfl
  refine Exists.intro _ (And.intro (cw_o9 hI.1) (And.intro rfl ?_))
  rw [cw_p_number hI.1]
  obtain ⟨w2, ew2⟩ : ∃ z9, z9 = upd w 3 (0 : Int32) := ⟨_, rfl⟩
  rw [← ew2]
  have ew2_0 : (w2 0).toInt = (w 0).toInt := by rw [ew2]; rfl
  have ew2_1 : (w2 1).toInt = (w 1).toInt := by rw [ew2]; rfl
  have ew2_2 : (w2 2).toInt = (w 2).toInt := by rw [ew2]; rfl
  have ew2_3 : (w2 3).toInt = ((0 : Int32)).toInt := by rw [ew2]; rfl
  have pn_13 : w2 3 = (0 : Int32) := by rw [ew2, pk_us]
  have pw_13 := ew2
  have hZ2 : cw_Z w2 := by rw [ew2]; exact cw_Z_up hI.2.2.1 _ _ (by omega)
  have hI2 : cw_I K nn dn q w2 e := ⟨hI.1, by unfold cw_W; omega, hZ2, hI.2.2.2⟩
  exact ⟨rfl, fun e9 => absurd e9 (by decide), rfl, w2, e, v, f, rfl, hI2, hs, rfl, (w 3), rfl, by first | omega | (dsimp only; omega) | trivial, by exact ⟨fun i9 h9 => ⟨by rw [pw_13, pk_un (by omega)], rfl⟩, ⟨rfl, by rw [pw_13, pk_us]; rfl⟩, fun _ => rfl⟩⟩

end
