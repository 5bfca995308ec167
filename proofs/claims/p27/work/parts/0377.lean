section
variable {l : Launch} {g : pm_G} {A0 : pm_H} {K nn dn : Nat} {q : Nat → Nat} {w : Nat → Int32} {e : Nat → Nat → Int32} {v : Nat → Int32} {f : Nat → Nat → Int32}
set_option maxRecDepth 100000 in
set_option maxHeartbeats 2000000 in
theorem F_X9_add (hI : cw_I K nn dn q w e) (hs : cw_S v f) (x1 : Int32) (p0 : 0 ≤ x1.toInt ∧ x1.toInt ≤ 23) (p1 : (w 1).toInt < 10000) : pm_Mt l g 28 1 0 0 [.ref (q 1), .int x1] (cw A0 g K nn dn q w e v f) (cw_Qt A0 g K nn dn q (fun r w2 e2 => e2 15 = e 15 ∧ (r = none ∧ (((w2 0).toInt = (w 0).toInt ∧ (w2 3).toInt = (w 3).toInt ∧ (w2 1).toInt = (w 1).toInt + 1) ∧ ((∀ i9, 40 ≤ i9 → (i9 < dn ∨ dn + 4 ≤ i9) → w2 i9 = w i9 ∧ e2 i9 = e i9) ∧ ∀ D, rp (w dn) (e (dn + 1)) (e (dn + 2)) (D) → (D.length : Int) < 160 → rp (w2 dn) (e2 (dn + 1)) (e2 (dn + 2)) (D ++ [(x1, w 1)])))))) := by
  refine mt_X9_add rfl (fun J hC => ?_)
  have ro_nn : cw_ro K nn := hI.2.1.2.1
  have ro_dn : cw_ro K dn := hI.2.1.2.2.1
  have hu1 := hI.2.1
  unfold cw_W at hu1
  have zs2 := cw_sz hI ro_nn
  have zs3 := cw_sz hI ro_dn
  have rg_x1 := pm_rng x1
  refine hC.1 0 0 _ _ rfl _ _ _ _ _ ?_
  refine Exists.intro _ (And.intro (cw_o1 hI.1) ?_)
  have km2 : (-2 : Int32).toInt = -2 := rfl
  refine And.intro (Exists.intro _ (cw_o1 hI.1)) (Exists.intro _ (Exists.intro _ (Exists.intro _ (Exists.intro _ (And.intro (F_X9_append hI hs x1 (w 1) (-2 : Int32) (by omega)) (And.intro rfl (fun r9 A9 h9 => ?_)))))))
  rcases h9 with ⟨w5, e5, v5, f5, rfl, hI5, hs5, hy5, rfl, by4⟩
  have hx5 : e5 15 = e 15 := hy5.trans rfl
  have hu6 := hI5.2.1
  unfold cw_W at hu6
  have zs7 := cw_sz hI5 ro_nn
  have zs8 := cw_sz hI5 ro_dn
  have hb_8 := by4.2
  refine Exists.intro _ (And.intro (cw_o1 hI5.1) ?_)
  have k1 : (1 : Int32).toInt = 1 := rfl
  intro m9 em_17
  try have e9 : m9.toInt = ((w5 1)).toInt + (1) := by rw [em_17]; exact pm_addc _ _ (1) rfl (by omega) (by omega)
  refine Exists.intro _ (And.intro (cw_o1 hI5.1) (And.intro rfl ?_))
  rw [cw_p_named hI5.1]
  obtain ⟨w10, ew10⟩ : ∃ z9, z9 = upd w5 1 m9 := ⟨_, rfl⟩
  rw [← ew10]
  have ew10_0 : (w10 0).toInt = (w5 0).toInt := by rw [ew10]; rfl
  have ew10_1 : (w10 1).toInt = (m9).toInt := by rw [ew10]; rfl
  have ew10_2 : (w10 2).toInt = (w5 2).toInt := by rw [ew10]; rfl
  have ew10_3 : (w10 3).toInt = (w5 3).toInt := by rw [ew10]; rfl
  have pn_18 : w10 1 = m9 := by rw [ew10, pk_us]
  have pw_18 := ew10
  have hZ10 : cw_Z w10 := by rw [ew10]; exact cw_Z_up hI5.2.2.1 _ _ (by omega)
  have hI10 : cw_I K nn dn q w10 e5 := ⟨hI5.1, by unfold cw_W; omega, hZ10, hI5.2.2.2⟩
  exact ⟨rfl, rfl, w10, e5, v5, f5, rfl, hI10, hs5, hx5, rfl, by first | omega | (dsimp only; omega) | trivial, by exact ⟨fun i9 h91 h92 => ⟨by rw [pw_18, pk_un (by omega)]; exact (hb_8.1 i9 h91 h92).1, (hb_8.1 i9 h91 h92).2⟩, fun D h1 h2 => (by have h3 := hb_8.2 D h1 h2; rw [pw_18, pk_un (by omega)]; exact h3)⟩⟩

end
