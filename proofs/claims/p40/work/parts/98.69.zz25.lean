section
variable {l : Launch} {g : pm_G} {A0 : pm_H} {K nn dn : Nat} {q : Nat → Nat} {w : Nat → Int32} {e : Nat → Nat → Int32} {v : Nat → Int32} {f : Nat → Nat → Int32}
set_option maxRecDepth 100000 in
set_option maxHeartbeats 2000000 in
theorem V_X5_answer (hI : cw_I K nn dn q w e) (hs : cw_S v f) (x1 : Int32) {o2 : Nat} (ho2 : cw_ro K o2) (p0 : 0 ≤ x1.toInt ∧ x1.toInt < 30) : pm_Mt l g 162 3 0 0 [.ref (q 9), .int x1, .ref (q o2), .ref (q 2)] (cw A0 g K nn dn q w e v f) (cw_Qt A0 g K nn dn q (fun r w2 e2 => e2 15 = e 15 ∧ ((r = some (.int 1) ∧ (((w2 0).toInt = (w 0).toInt ∧ (w2 1).toInt = (w 1).toInt ∧ (w2 2).toInt = (w 2).toInt ∧ (w2 3).toInt = (w 3).toInt) ∧ (w2 = w ∧ (∀ i9, i9 ≠ 37 → i9 ≠ 38 → e2 i9 = e i9) ∧ ∃ a9 b9 : Int32, e2 37 = upd (e 37) x1.toInt.toNat a9 ∧ e2 38 = upd (e 38) x1.toInt.toNat b9 ∧ ANR (e (o2 + 1)) (e (o2 + 2)) (e 15) (w o2).toInt (e 35 x1.toInt.toNat) (e 36 x1.toInt.toNat) a9 b9 ∧ ¬ a9 = -1))) ∨ (r = some (.int 0) ∧ (((w2 0).toInt = (w 0).toInt ∧ (w2 1).toInt = (w 1).toInt ∧ (w2 2).toInt = (w 2).toInt ∧ (w2 3).toInt = (w 3).toInt) ∧ (w2 = w ∧ (∀ i9, i9 ≠ 37 → i9 ≠ 38 → e2 i9 = e i9) ∧ ∃ a9 b9 : Int32, e2 37 = upd (e 37) x1.toInt.toNat a9 ∧ e2 38 = upd (e 38) x1.toInt.toNat b9 ∧ ANR (e (o2 + 1)) (e (o2 + 2)) (e 15) (w o2).toInt (e 35 x1.toInt.toNat) (e 36 x1.toInt.toNat) a9 b9 ∧ a9 = -1)))))) := by
  refine mt_X5_answer rfl (fun J hC => ?_)
  have ro_nn : cw_ro K nn := hI.2.1.2.1
  have ro_dn : cw_ro K dn := hI.2.1.2.2.1
  have hu1 := hI.2.1
  unfold cw_W at hu1
  have rg_x1 := pm_rng x1
  have yd_9 := ho2
  unfold cw_ro at yd_9
  have zz2 := cw_sz hI ho2
  refine hC.1 0 0 _ _ rfl _ _ _ _ _ ?_
  refine Exists.intro _ (And.intro (cw_o9 hI.1) ?_)
  have km1 : (-1 : Int32).toInt = -1 := rfl
  refine Exists.intro _ (Exists.intro _ (And.intro (cw_a37 hI.1) (And.intro (by omega) ?_)))
  rw [cw_s37 hI.1]
  obtain ⟨e2, ee2⟩ : ∃ z9, z9 = va_up e 37 (upd (e 37) (x1).toInt.toNat (-1 : Int32)) := ⟨_, rfl⟩
  rw [← ee2]
  have hI2 : cw_I K nn dn q w e2 := ⟨hI.1, hI.2.1, hI.2.2.1, by rw [ee2]; exact cw_E_up hI.2.2.2 _ _ (fun h9 _ => absurd h9 (by decide)) (fun h9 _ => absurd h9 (by decide))⟩
  have hx2 : e2 15 = e 15 := (show e2 15 = e 15 by rw [ee2]; exact if_neg (by omega)).trans rfl
  have pe_6 := ee2
  refine Exists.intro _ (And.intro (cw_o9 hI2.1) ?_)
  refine Exists.intro _ (Exists.intro _ (And.intro (cw_a38 hI2.1) (And.intro (by omega) ?_)))
  rw [cw_s38 hI2.1]
  obtain ⟨e3, ee3⟩ : ∃ z9, z9 = va_up e2 38 (upd (e2 38) (x1).toInt.toNat (-1 : Int32)) := ⟨_, rfl⟩
  rw [← ee3]
  have hI3 : cw_I K nn dn q w e3 := ⟨hI2.1, hI2.2.1, hI2.2.2.1, by rw [ee3]; exact cw_E_up hI2.2.2.2 _ _ (fun h9 _ => absurd h9 (by decide)) (fun h9 _ => absurd h9 (by decide))⟩
  have hx3 : e3 15 = e 15 := (show e3 15 = e2 15 by rw [ee3]; exact if_neg (by omega)).trans hx2
  have pe_13 := ee3
  refine hC.1 1 20 _ _ rfl _ _ _ _ _ ?_
  have en_9 : ∀ i9, i9 ≠ 37 → i9 ≠ 38 → e3 i9 = e i9 := fun i9 h9 h8 => (by rw [pe_13, va_un h8, pe_6, va_un h9])
  refine Exists.intro _ (And.intro (cw_o9 hI3.1) ?_)
  refine Exists.intro _ (Exists.intro _ (And.intro (Or.inl (cw_a35 hI3.1)) (And.intro (by omega) ?_)))
  refine And.intro (Exists.intro _ (cw_ro_o hI3.1 ho2)) (Exists.intro _ (Exists.intro _ (Exists.intro _ (Exists.intro _ (And.intro (F_X7_placeOf hI3 hs ho2 (e3 35 (x1).toInt.toNat) ) (And.intro rfl (fun r9 A9 h9 => ?_)))))))
  obtain ⟨y4, rfl, rfl, by4⟩ := h9
  have yp_9 := FST_n (by omega) by4.2
  have yp_8 := by4.1
  rw [en_9 (o2 + 2) (by omega) (by omega), en_9 35 (by decide) (by decide)] at yp_9
  refine Exists.intro _ (And.intro (cw_o9 hI3.1) ?_)
  refine Exists.intro _ (Exists.intro _ (And.intro (Or.inl (cw_a36 hI3.1)) (And.intro (by omega) ?_)))
  refine And.intro (Exists.intro _ (cw_ro_o hI3.1 ho2)) (Exists.intro _ (Exists.intro _ (Exists.intro _ (Exists.intro _ (And.intro (F_X7_placeOf hI3 hs ho2 (e3 36 (x1).toInt.toNat) ) (And.intro rfl (fun r9 A9 h9 => ?_)))))))
  obtain ⟨y6, rfl, rfl, by6⟩ := h9
  have yq_9 := FST_n (by omega) by6.2
  have yq_8 := by6.1
  rw [en_9 (o2 + 2) (by omega) (by omega), en_9 36 (by decide) (by decide)] at yq_9
  refine And.intro (fun c8 => ?_) (fun c8 => ?_)
  · skip
    have dc8 : (y4).toInt = ((-1 : Int32) : Int32).toInt := congrArg Int32.toInt c8
    refine hC.1 2 56 _ _ rfl _ _ _ _ _ ?_
    have k0 : (0 : Int32).toInt = 0 := rfl
    exact ⟨rfl, fun _ => (by decide), rfl, w, e3, v, f, rfl, hI3, hs, hx3, Or.inr ⟨rfl, by first | omega | (dsimp only; omega) | trivial, by exact ⟨rfl, fun i9 h9 h8 => (by rw [pe_13, va_un h8, pe_6, va_un h9]), -1, -1, (by rw [pe_13, va_un (by decide), pe_6, va_us]), (by rw [pe_13, va_us, pe_6, va_un (by decide)]), ANR_no yp_9 yq_9 (by omega) rfl rfl, rfl⟩⟩⟩
  · skip
    have dc8 := pm_neI c8
    refine And.intro (fun c9 => ?_) (fun c9 => ?_)
    · skip
      have dc9 := pm_neI c9
      refine hC.1 3 58 _ _ rfl _ _ _ _ _ ?_
      refine Exists.intro _ (Exists.intro _ (Exists.intro _ (Exists.intro _ (And.intro (c_J9_min_7cf53 (cw A0 g K nn dn q w e3 v f) y4 y6 ) (And.intro rfl (fun r9 A9 h9 => ?_))))))
      obtain ⟨y10, rfl, rfl, by10⟩ := h9
      refine Exists.intro _ (Exists.intro _ (Exists.intro _ (Exists.intro _ (And.intro (c_J9_max_7cf53 (cw A0 g K nn dn q w e3 v f) y4 y6 ) (And.intro rfl (fun r9 A9 h9 => ?_))))))
      obtain ⟨y12, rfl, rfl, by12⟩ := h9
      refine And.intro (Exists.intro _ (cw_o2 hI3.1)) (Exists.intro _ (Exists.intro _ (Exists.intro _ (Exists.intro _ (And.intro (F_X2_read hI3 hs ho2 y10 y12 (by omega)) (And.intro rfl (fun r9 A9 h9 => ?_)))))))
      rcases h9 with ⟨v15, f15, rfl, hs15, rfl, by14⟩
      have yr_9 := by14.2.1
      rw [en_9 (o2 + 1) (by omega) (by omega), en_9 15 (by decide) (by decide)] at yr_9
      have yk_9 := PAL_kd (fun j9 => cw_col hI ho2 j9) yr_9
      have ym_9 := PAL_ms (fun j9 => cw_col hI ho2 j9) yr_9
      refine Exists.intro _ (And.intro (cw_o9 hI3.1) ?_)
      refine Exists.intro _ (And.intro (cw_o2 hI3.1) ?_)
      refine Exists.intro _ (Exists.intro _ (And.intro (cw_a37 hI3.1) (And.intro (by omega) ?_)))
      rw [cw_s37 hI3.1]
      obtain ⟨e16, ee16⟩ : ∃ z9, z9 = va_up e3 37 (upd (e3 37) (x1).toInt.toNat (v15 2)) := ⟨_, rfl⟩
      rw [← ee16]
      have hI16 : cw_I K nn dn q w e16 := ⟨hI3.1, hI3.2.1, hI3.2.2.1, by rw [ee16]; exact cw_E_up hI3.2.2.2 _ _ (fun h9 _ => absurd h9 (by decide)) (fun h9 _ => absurd h9 (by decide))⟩
      have hx16 : e16 15 = e 15 := (show e16 15 = e3 15 by rw [ee16]; exact if_neg (by omega)).trans hx3
      have pe_86 := ee16
      refine Exists.intro _ (And.intro (cw_o9 hI16.1) ?_)
      refine Exists.intro _ (And.intro (cw_o2 hI16.1) ?_)
      refine Exists.intro _ (Exists.intro _ (And.intro (cw_a38 hI16.1) (And.intro (by omega) ?_)))
      rw [cw_s38 hI16.1]
      obtain ⟨e17, ee17⟩ : ∃ z9, z9 = va_up e16 38 (upd (e16 38) (x1).toInt.toNat (v15 4)) := ⟨_, rfl⟩
      rw [← ee17]
      have hI17 : cw_I K nn dn q w e17 := ⟨hI16.1, hI16.2.1, hI16.2.2.1, by rw [ee17]; exact cw_E_up hI16.2.2.2 _ _ (fun h9 _ => absurd h9 (by decide)) (fun h9 _ => absurd h9 (by decide))⟩
      have hx17 : e17 15 = e 15 := (show e17 15 = e16 15 by rw [ee17]; exact if_neg (by omega)).trans hx16
      have pe_96 := ee17
      have k1 : (1 : Int32).toInt = 1 := rfl
      exact ⟨rfl, fun _ => (by decide), rfl, w, e17, v15, f15, rfl, hI17, hs15, hx17, Or.inl ⟨rfl, by first | omega | (dsimp only; omega) | trivial, by exact ⟨rfl, fun i9 h9 h8 => (by rw [pe_96, va_un h8, pe_86, va_un h9, pe_13, va_un h8, pe_6, va_un h9]), _, _, (by rw [pe_96, va_un (by decide), pe_86, va_us, pe_13, va_un (by decide), pe_6, va_us, pk_uu]), (by rw [pe_96, va_us, pe_86, va_un (by decide), pe_13, va_us, pe_6, va_un (by decide), pk_uu]), ANR_yes yp_9 yq_9 (by omega) (by omega) yk_9 ym_9, m1_ne (by rw [yk_9]; omega)⟩⟩⟩
    · skip
      have dc9 : (y6).toInt = ((-1 : Int32) : Int32).toInt := congrArg Int32.toInt c9
      refine hC.1 2 56 _ _ rfl _ _ _ _ _ ?_
      have k0 : (0 : Int32).toInt = 0 := rfl
      exact ⟨rfl, fun _ => (by decide), rfl, w, e3, v, f, rfl, hI3, hs, hx3, Or.inr ⟨rfl, by first | omega | (dsimp only; omega) | trivial, by exact ⟨rfl, fun i9 h9 h8 => (by rw [pe_13, va_un h8, pe_6, va_un h9]), -1, -1, (by rw [pe_13, va_un (by decide), pe_6, va_us]), (by rw [pe_13, va_us, pe_6, va_un (by decide)]), ANR_no yp_9 yq_9 (by omega) rfl rfl, rfl⟩⟩⟩

end
