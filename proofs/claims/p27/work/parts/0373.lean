section
variable {l : Launch} {g : pm_G} {A0 : pm_H} {K nn dn : Nat} {q : Nat → Nat} {w : Nat → Int32} {e : Nat → Nat → Int32} {v : Nat → Int32} {f : Nat → Nat → Int32}
set_option maxRecDepth 100000 in
set_option maxHeartbeats 2000000 in
theorem F_X9_append (hI : cw_I K nn dn q w e) (hs : cw_S v f) (x1 : Int32) (x2 : Int32) (x3 : Int32) (p0 : 0 ≤ x1.toInt ∧ x1.toInt ≤ 23) : pm_Mt l g 22 0 0 0 [.ref (q 1), .int x1, .int x2, .int x3] (cw A0 g K nn dn q w e v f) (cw_Qt A0 g K nn dn q (fun r w2 e2 => e2 15 = e 15 ∧ (r = none ∧ (((w2 0).toInt = (w 0).toInt ∧ (w2 1).toInt = (w 1).toInt ∧ (w2 3).toInt = (w 3).toInt) ∧ ((∀ i9, 40 ≤ i9 → (i9 < dn ∨ dn + 4 ≤ i9) → w2 i9 = w i9 ∧ e2 i9 = e i9) ∧ ∀ D, rp (w dn) (e (dn + 1)) (e (dn + 2)) (D) → (D.length : Int) < 160 → rp (w2 dn) (e2 (dn + 1)) (e2 (dn + 2)) (D ++ [(x1, x2)])))))) := by
  refine mt_X9_append rfl (fun J hC => ?_)
  have ro_nn : cw_ro K nn := hI.2.1.2.1
  have ro_dn : cw_ro K dn := hI.2.1.2.2.1
  have hu1 := hI.2.1
  unfold cw_W at hu1
  have zs2 := cw_sz hI ro_nn
  have zs3 := cw_sz hI ro_dn
  have rg_x1 := pm_rng x1
  have rg_x2 := pm_rng x2
  have rg_x3 := pm_rng x3
  refine hC.1 0 0 _ _ rfl _ _ _ _ _ ?_
  refine Exists.intro _ (And.intro (cw_o1 hI.1) ?_)
  refine Exists.intro _ (And.intro (cw_ro_o hI.1 ro_dn) ?_)
  have z4 := cw_sz hI ro_dn
  refine And.intro (fun c5 => ?_) (fun c5 => ?_)
  · skip
    refine hC.1 1 22 _ _ rfl _ _ _ _ _ ?_
    exact ⟨rfl, rfl, w, e, v, f, rfl, hI, hs, rfl, rfl, by first | omega | (dsimp only; omega) | trivial, by exact ⟨fun _ _ _ => ⟨rfl, rfl⟩, fun D hD hlen => absurd hD.1 (by omega)⟩⟩
  · skip
    have k160 : (160 : Int32).toInt = 160 := rfl
    refine And.intro (fun c6 => ?_) (fun c6 => ?_)
    · skip
      refine hC.1 2 23 _ _ rfl _ _ _ _ _ ?_
      refine Exists.intro _ (And.intro (cw_o1 hI.1) ?_)
      refine Exists.intro _ (And.intro (cw_ro_o hI.1 ro_dn) ?_)
      have hb7 := ro_dn
      unfold cw_ro at hb7
      refine Exists.intro _ (Exists.intro _ (And.intro (cw_ro_1 hI.1 ro_dn) (And.intro (by omega) ?_)))
      rw [cw_sr_1 hI.1 ro_dn]
      obtain ⟨e8, ee8⟩ : ∃ z9, z9 = va_up e (dn + 1) (upd (e (dn + 1)) ((w dn)).toInt.toNat x1) := ⟨_, rfl⟩
      rw [← ee8]
      have hI8 : cw_I K nn dn q w e8 := ⟨hI.1, hI.2.1, hI.2.2.1, by rw [ee8]; exact cw_E_1 hI.2.2.2 (by omega) _ _ (by omega)⟩
      have hx8 : e8 15 = e 15 := (show e8 15 = e 15 by rw [ee8]; exact if_neg (by omega)).trans rfl
      have pe_33 := ee8
      refine Exists.intro _ (And.intro (cw_o1 hI8.1) ?_)
      refine Exists.intro _ (And.intro (cw_ro_o hI8.1 ro_dn) ?_)
      have hb9 := ro_dn
      unfold cw_ro at hb9
      refine Exists.intro _ (Exists.intro _ (And.intro (cw_ro_2 hI8.1 ro_dn) (And.intro (by omega) ?_)))
      rw [cw_sr_2 hI8.1 ro_dn]
      obtain ⟨e10, ee10⟩ : ∃ z9, z9 = va_up e8 (dn + 2) (upd (e8 (dn + 2)) ((w dn)).toInt.toNat x2) := ⟨_, rfl⟩
      rw [← ee10]
      have hI10 : cw_I K nn dn q w e10 := ⟨hI8.1, hI8.2.1, hI8.2.2.1, by rw [ee10]; exact cw_E_2 hI8.2.2.2 (by omega) _⟩
      have hx10 : e10 15 = e 15 := (show e10 15 = e8 15 by rw [ee10]; exact if_neg (by omega)).trans hx8
      have pe_44 := ee10
      refine Exists.intro _ (And.intro (cw_o1 hI10.1) ?_)
      refine Exists.intro _ (Exists.intro _ (And.intro (cw_a12 hI10.1) (And.intro (by omega) ?_)))
      rw [cw_s12 hI10.1]
      obtain ⟨f11, ef11⟩ : ∃ z9, z9 = va_up f 12 (upd (f 12) ((w dn)).toInt.toNat x3) := ⟨_, rfl⟩
      rw [← ef11]
      have hs11 : cw_S v f11 := by rw [ef11]; exact cw_S_fr hs _ _ (by decide) (by decide)
      refine Exists.intro _ (And.intro (cw_o1 hI10.1) ?_)
      have k1 : (1 : Int32).toInt = 1 := rfl
      intro m12 em_60
      try have e12 : m12.toInt = ((w dn)).toInt + (1) := by rw [em_60]; exact pm_addc _ _ (1) rfl (by omega) (by omega)
      have hb13 := ro_dn
      unfold cw_ro at hb13
      refine Exists.intro _ (And.intro (cw_ro_o hI10.1 ro_dn) (And.intro rfl ?_))
      rw [cw_p_size hI10.1 ro_dn]
      obtain ⟨w14, ew14⟩ : ∃ z9, z9 = upd w dn m12 := ⟨_, rfl⟩
      rw [← ew14]
      have ew14_0 : (w14 0).toInt = (w 0).toInt := by rw [ew14, pk_un (by omega)]
      have ew14_1 : (w14 1).toInt = (w 1).toInt := by rw [ew14, pk_un (by omega)]
      have ew14_2 : (w14 2).toInt = (w 2).toInt := by rw [ew14, pk_un (by omega)]
      have ew14_3 : (w14 3).toInt = (w 3).toInt := by rw [ew14, pk_un (by omega)]
      have pn_61 : w14 dn = m12 := by rw [ew14, pk_us]
      have pw_61 := ew14
      have hZ14 : cw_Z w14 := by rw [ew14]; exact cw_Z_up hI10.2.2.1 _ _ (by omega)
      have hI14 : cw_I K nn dn q w14 e10 := ⟨hI10.1, by unfold cw_W; omega, hZ14, hI10.2.2.2⟩
      exact ⟨rfl, rfl, w14, e10, v, f11, rfl, hI14, hs11, hx10, rfl, by first | omega | (dsimp only; omega) | trivial, by exact ⟨fun i9 h91 h92 => ⟨by rw [pw_61, pk_un (by omega)], by rw [pe_44, va_un (by omega), pe_33, va_un (by omega)]⟩, fun D hD hlen => (by rw [pw_61, pk_us, pe_44, va_un (by omega), va_us, pe_33, va_us, va_un (by omega)]; exact rp_app hD (by omega) _ _)⟩⟩
    · skip
      refine hC.1 1 22 _ _ rfl _ _ _ _ _ ?_
      exact ⟨rfl, rfl, w, e, v, f, rfl, hI, hs, rfl, rfl, by first | omega | (dsimp only; omega) | trivial, by exact ⟨fun _ _ _ => ⟨rfl, rfl⟩, fun D hD hlen => absurd hD.1 (by omega)⟩⟩

end
