section
variable {l : Launch} {g : pm_G} {A0 : pm_H} {K nn dn : Nat} {q : Nat → Nat} {w : Nat → Int32} {e : Nat → Nat → Int32} {v : Nat → Int32} {f : Nat → Nat → Int32}
set_option maxRecDepth 100000 in
set_option maxHeartbeats 2000000 in
theorem H_X10_swapInOrder_l5 (hI : cw_I K nn dn q w e) (hs : cw_S v f) (x1 : Int32) (x2 : Int32) (x3 : Int32) (x4 : Int32) (p0 : (w 0).toInt < 100000) (p1 : 0 ≤ x1.toInt ∧ x1.toInt ≤ x2.toInt ∧ x2.toInt < x3.toInt ∧ x3.toInt ≤ x4.toInt ∧ x4.toInt < 160) : pm_Mt l g 35 4 4 485 [.ref (q 0), .int x1, .int x2, .int x3, .int x4] (cw A0 g K nn dn q w e v f) (cw_Qb A0 g K nn q (fun r K2 nn2 dn2 w2 e2 => e2 15 = e 15 ∧ (∃ x : Int32, r = some (.int x) ∧ (((w2 0).toInt ≤ (w 0).toInt + 1 ∧ (w 0).toInt ≤ (w2 0).toInt) ∧ (∀ L, rp (w nn) (e (nn + 1)) (e (nn + 2)) L → (nn : Int) = 40 + 4 * ((w 0).toInt % 41) → x4.toInt < (L.length : Int) → rp (w2 nn2) (e2 (nn2 + 1)) (e2 (nn2 + 2)) (sw_l L x1.toInt x2.toInt x3.toInt x4.toInt) ∧ (w2 0).toInt = (w 0).toInt + 1 ∧ (w2 1).toInt = (w 1).toInt ∧ (nn2 : Int) = 40 + 4 * ((w2 0).toInt % 41) ∧ (bd (w nn) (e (nn + 1)) (e (nn + 3)) → bd (w2 nn2) (e2 (nn2 + 1)) (e2 (nn2 + 3)))))))) := by
  refine mt_X10_swapInOrder rfl (fun J hC => ?_)
  have ro_nn : cw_ro K nn := hI.2.1.2.1
  have ro_dn : cw_ro K dn := hI.2.1.2.2.1
  have hu1 := hI.2.1
  unfold cw_W at hu1
  replace hu1 := And.intro hu1.1 (And.intro (And.intro hu1.2.1.1 hu1.2.1.2.1) (And.intro (And.intro hu1.2.2.1.1 hu1.2.2.1.2.1) (And.intro hu1.2.2.2.1 (And.intro hu1.2.2.2.2.2.1 hu1.2.2.2.2.2.2))))
  have zs2 := cw_sz hI ro_nn
  have zs3 := cw_sz hI ro_dn
  have rg_x1 := pm_rng x1
  have rg_x2 := pm_rng x2
  have rg_x3 := pm_rng x3
  have rg_x4 := pm_rng x4
  refine hC.1 0 0 _ _ rfl _ _ _ _ _ ?_
  refine Exists.intro _ (And.intro (cw_o0 hI.1) ?_)
  refine And.intro (Exists.intro _ (cw_o1 hI.1)) (Exists.intro _ (Exists.intro _ (Exists.intro _ (Exists.intro _ (And.intro (F_X9_begin hI hs  (by omega)) (And.intro rfl (fun r9 A9 h9 => ?_)))))))
  obtain ⟨K5, dn5, q5, w5, e5, rfl, rfl, hI5, hX5, hk5, hw5, hy5, hdn5, hfm5, hz5⟩ := h9
  have hq5_0 : q 0 = q5 0 := (hX5.2.1 0 (by omega)).symm
  rw [hq5_0]
  have hw5_0 := congrArg Int32.toInt hw5.1
  have hw5_1 := congrArg Int32.toInt hw5.2.1
  have hw5_3 := congrArg Int32.toInt hw5.2.2.2
  have ro5 : cw_ro K5 dn5 := hI5.2.1.2.2.1
  have rn5 : cw_ro K5 nn := hI5.2.1.2.1
  have hx5 : e5 15 = e 15 := hy5.trans rfl
  have hu6 := hI5.2.1
  unfold cw_W at hu6
  replace hu6 := And.intro hu6.1 (And.intro (And.intro hu6.2.1.1 hu6.2.1.2.1) (And.intro (And.intro hu6.2.2.1.1 hu6.2.2.1.2.1) (And.intro hu6.2.2.2.1 (And.intro hu6.2.2.2.2.2.1 hu6.2.2.2.2.2.2))))
  have zs7 := cw_sz hI5 rn5
  have zs8 := cw_sz hI5 ro5
  have hz9 := hz5
  have hL5 : ∀ L, rp (w nn) (e (nn + 1)) (e (nn + 2)) L → (nn : Int) = 40 + 4 * ((w 0).toInt % 41) → nn ≠ dn5 ∧ rp (w5 nn) (e5 (nn + 1)) (e5 (nn + 2)) L := hL_b ro_nn ro5 hdn5 hfm5
  refine Exists.intro _ (And.intro (cw_o0 hI5.1) ?_)
  have k0 : (0 : Int32).toInt = 0 := rfl
  have k1 : (1 : Int32).toInt = 1 := rfl
  intro m9 em_14
  try have e9 : m9.toInt = (x1).toInt - (1) := by rw [em_14]; exact pm_subc _ _ (1) rfl (by omega) (by omega)
  have hp_15 := hL5
  refine And.intro (Exists.intro _ (cw_o1 hI5.1)) (Exists.intro _ (Exists.intro _ (Exists.intro _ (Exists.intro _ (And.intro (F_X9_keep hI5 hs (0 : Int32) m9 ) (And.intro rfl (fun r9 A9 h9 => ?_)))))))
  rcases h9 with ⟨w11, e11, v11, f11, rfl, hI11, hs11, hy11, rfl, by10⟩
  have hx11 : e11 15 = e 15 := hy11.trans hx5
  have zs12 := cw_sz hI11 rn5
  have zs13 := cw_sz hI11 ro5
  have hb_15 := by10.2
  have hL11 : ∀ L, rp (w nn) (e (nn + 1)) (e (nn + 2)) L → (nn : Int) = 40 + 4 * ((w 0).toInt % 41) → nn ≠ dn5 ∧ rp (w11 nn) (e11 (nn + 1)) (e11 (nn + 2)) L := hL_k hL5 rn5 ro5 hb_15.1
  have sw11_0 : (w11 0).toInt = (w 0).toInt := by10.1.1.trans hw5_0
  have sw11_1 : (w11 1).toInt = (w 1).toInt := by10.1.2.1.trans hw5_1
  have sw11_3 : (w11 3).toInt = (w 3).toInt := by10.1.2.2.trans hw5_3
  clear by10
  refine Exists.intro _ (And.intro (cw_o0 hI11.1) ?_)
  have hp_25 := hL11
  refine And.intro (Exists.intro _ (cw_o1 hI11.1)) (Exists.intro _ (Exists.intro _ (Exists.intro _ (Exists.intro _ (And.intro (F_X9_keep hI11 hs11 x3 x4 ) (And.intro rfl (fun r9 A9 h9 => ?_)))))))
  rcases h9 with ⟨w15, e15, v15, f15, rfl, hI15, hs15, hy15, rfl, by14⟩
  have hx15 : e15 15 = e 15 := hy15.trans hx11
  clear zs12 zs13
  have zs16 := cw_sz hI15 rn5
  have zs17 := cw_sz hI15 ro5
  have hb_25 := by14.2
  have hL15 : ∀ L, rp (w nn) (e (nn + 1)) (e (nn + 2)) L → (nn : Int) = 40 + 4 * ((w 0).toInt % 41) → nn ≠ dn5 ∧ rp (w15 nn) (e15 (nn + 1)) (e15 (nn + 2)) L := hL_k hL11 rn5 ro5 hb_25.1
  have sw15_0 : (w15 0).toInt = (w 0).toInt := by14.1.1.trans sw11_0
  have sw15_1 : (w15 1).toInt = (w 1).toInt := by14.1.2.1.trans sw11_1
  have sw15_3 : (w15 3).toInt = (w 3).toInt := by14.1.2.2.trans sw11_3
  clear by14 sw11_0 sw11_1 sw11_3
  refine Exists.intro _ (And.intro (cw_o0 hI15.1) ?_)
  intro m18 em_34
  try have e18 : m18.toInt = (x2).toInt + (1) := by rw [em_34]; exact pm_addc _ _ (1) rfl (by omega) (by omega)
  intro m19 em_37
  try have e19 : m19.toInt = (x3).toInt - (1) := by rw [em_37]; exact pm_subc _ _ (1) rfl (by omega) (by omega)
  have hp_38 := hL15
  refine And.intro (Exists.intro _ (cw_o1 hI15.1)) (Exists.intro _ (Exists.intro _ (Exists.intro _ (Exists.intro _ (And.intro (F_X9_keep hI15 hs15 m18 m19 ) (And.intro rfl (fun r9 A9 h9 => ?_)))))))
  rcases h9 with ⟨w21, e21, v21, f21, rfl, hI21, hs21, hy21, rfl, by20⟩
  have hx21 : e21 15 = e 15 := hy21.trans hx15
  clear zs16 zs17
  have zs22 := cw_sz hI21 rn5
  have zs23 := cw_sz hI21 ro5
  have hb_38 := by20.2
  have hL21 : ∀ L, rp (w nn) (e (nn + 1)) (e (nn + 2)) L → (nn : Int) = 40 + 4 * ((w 0).toInt % 41) → nn ≠ dn5 ∧ rp (w21 nn) (e21 (nn + 1)) (e21 (nn + 2)) L := hL_k hL15 rn5 ro5 hb_38.1
  have sw21_0 : (w21 0).toInt = (w 0).toInt := by20.1.1.trans sw15_0
  have sw21_1 : (w21 1).toInt = (w 1).toInt := by20.1.2.1.trans sw15_1
  have sw21_3 : (w21 3).toInt = (w 3).toInt := by20.1.2.2.trans sw15_3
  clear by20 sw15_0 sw15_1 sw15_3
  refine Exists.intro _ (And.intro (cw_o0 hI21.1) ?_)
  have hp_47 := hL21
  refine And.intro (Exists.intro _ (cw_o1 hI21.1)) (Exists.intro _ (Exists.intro _ (Exists.intro _ (Exists.intro _ (And.intro (F_X9_keep hI21 hs21 x1 x2 ) (And.intro rfl (fun r9 A9 h9 => ?_)))))))
  rcases h9 with ⟨w25, e25, v25, f25, rfl, hI25, hs25, hy25, rfl, by24⟩
  have hx25 : e25 15 = e 15 := hy25.trans hx21
  clear zs22 zs23
  have zs26 := cw_sz hI25 rn5
  have zs27 := cw_sz hI25 ro5
  have hb_47 := by24.2
  have hL25 : ∀ L, rp (w nn) (e (nn + 1)) (e (nn + 2)) L → (nn : Int) = 40 + 4 * ((w 0).toInt % 41) → nn ≠ dn5 ∧ rp (w25 nn) (e25 (nn + 1)) (e25 (nn + 2)) L := hL_k hL21 rn5 ro5 hb_47.1
  have sw25_0 : (w25 0).toInt = (w 0).toInt := by24.1.1.trans sw21_0
  have sw25_1 : (w25 1).toInt = (w 1).toInt := by24.1.2.1.trans sw21_1
  have sw25_3 : (w25 3).toInt = (w 3).toInt := by24.1.2.2.trans sw21_3
  clear by24 sw21_0 sw21_1 sw21_3
  refine Exists.intro _ (And.intro (cw_o0 hI25.1) ?_)
  intro m28 em_57
  try have e28 : m28.toInt = (x4).toInt + (1) := by rw [em_57]; exact pm_addc _ _ (1) rfl (by omega) (by omega)
  refine Exists.intro _ (And.intro (cw_o0 hI25.1) ?_)
  refine Exists.intro _ (And.intro (cw_o1 hI25.1) ?_)
  refine Exists.intro _ (And.intro (cw_ro_o hI25.1 rn5) ?_)
  have z29 := cw_sz hI25 rn5
  intro m30 em_69
  try have e30 : m30.toInt = ((w25 nn)).toInt - (1) := by rw [em_69]; exact pm_subc _ _ (1) rfl (by omega) (by omega)
  have hp_70 := hL25
  refine And.intro (Exists.intro _ (cw_o1 hI25.1)) (Exists.intro _ (Exists.intro _ (Exists.intro _ (Exists.intro _ (And.intro (F_X9_keep hI25 hs25 m28 m30 ) (And.intro rfl (fun r9 A9 h9 => ?_)))))))
  rcases h9 with ⟨w32, e32, v32, f32, rfl, hI32, hs32, hy32, rfl, by31⟩
  have hx32 : e32 15 = e 15 := hy32.trans hx25
  clear zs26 zs27
  have zs33 := cw_sz hI32 rn5
  have zs34 := cw_sz hI32 ro5
  have hb_70 := by31.2
  have hL32 : ∀ L, rp (w nn) (e (nn + 1)) (e (nn + 2)) L → (nn : Int) = 40 + 4 * ((w 0).toInt % 41) → nn ≠ dn5 ∧ rp (w32 nn) (e32 (nn + 1)) (e32 (nn + 2)) L := hL_k hL25 rn5 ro5 hb_70.1
  have sw32_0 : (w32 0).toInt = (w 0).toInt := by31.1.1.trans sw25_0
  have sw32_1 : (w32 1).toInt = (w 1).toInt := by31.1.2.1.trans sw25_1
  have sw32_3 : (w32 3).toInt = (w 3).toInt := by31.1.2.2.trans sw25_3
  clear by31 sw25_0 sw25_1 sw25_3
  refine Exists.intro _ (And.intro (cw_o0 hI32.1) ?_)
  have hp_77 := hL32
  refine And.intro (Exists.intro _ (cw_o1 hI32.1)) (Exists.intro _ (Exists.intro _ (Exists.intro _ (Exists.intro _ (And.intro (G_X9_finish hI32 hs32  (by omega) (by omega)) (And.intro rfl (fun r9 A9 h9 => ?_)))))))
  rcases h9 with ⟨w36, e36, v36, f36, rfl, hI36, hs36, hy36, y35, rfl, by35⟩
  have hx36 : e36 15 = e 15 := hy36.trans hx32
  have hu37 := hI36.2.1.2.2.2.1
  have hu38 := hI36.2.1.2.2.2.2.1
  clear zs33 zs34
  have zs39 := cw_sz hI36 ro5
  have zs40 := cw_sz hI36 ro5
  have hb_77 := by35.2
  have sw36_1 : (w36 1).toInt = (w 1).toInt := by35.1.1.trans sw32_1
  have sw36_3 : (w36 3).toInt = (w 3).toInt := by35.1.2.1.trans sw32_3
  have sp36 := by35.1.2.2
  clear by35 sw32_1 sw32_3
  exact ⟨rfl, fun e9 => absurd e9 (by decide), rfl, K5, dn5, dn5, q5, w36, e36, v36, f36, rfl, hI36, hs36, hX5, hx36, y35, rfl, by first | omega | (dsimp only; omega) | trivial, by intro L hL hN h4; have hl := hL.1; unfold sw_l; have q1 := hp_15 L hL hN; have z1 := q1.2.1; have t1 := hb_15.2 L ([]) (0) (x1.toInt) q1.2 q1.1 (by omega) (by omega) (by omega) (by omega) (by omega) (by first | omega | (simp only [List.length_append, List.length_nil, List.length_cons, List.length_map, List.length_reverse, nw_len, dr_len]; omega)) (rp_0 hz9); have k1 := si_len (L := L) (a := 0) (b := x1.toInt) (by omega) (by omega) (by omega); rw [List.nil_append] at t1; have q2 := hp_25 L hL hN; have z2 := q2.2.1; have t2 := hb_25.2 L (_) (x3.toInt) (x4.toInt + 1) q2.2 q2.1 (by omega) (by omega) (by omega) (by omega) (by omega) (by first | omega | (simp only [List.length_append, List.length_nil, List.length_cons, List.length_map, List.length_reverse, nw_len, dr_len]; omega)) t1; have k2 := si_len (L := L) (a := x3.toInt) (b := x4.toInt + 1) (by omega) (by omega) (by omega); have q3 := hp_38 L hL hN; have z3 := q3.2.1; have t3 := hb_38.2 L (_) (x2.toInt + 1) (x3.toInt) q3.2 q3.1 (by omega) (by omega) (by omega) (by omega) (by omega) (by first | omega | (simp only [List.length_append, List.length_nil, List.length_cons, List.length_map, List.length_reverse, nw_len, dr_len]; omega)) t2; have k3 := si_len (L := L) (a := x2.toInt + 1) (b := x3.toInt) (by omega) (by omega) (by omega); have q4 := hp_47 L hL hN; have z4 := q4.2.1; have t4 := hb_47.2 L (_) (x1.toInt) (x2.toInt + 1) q4.2 q4.1 (by omega) (by omega) (by omega) (by omega) (by omega) (by first | omega | (simp only [List.length_append, List.length_nil, List.length_cons, List.length_map, List.length_reverse, nw_len, dr_len]; omega)) t3; have k4 := si_len (L := L) (a := x1.toInt) (b := x2.toInt + 1) (by omega) (by omega) (by omega); have q5 := hp_70 L hL hN; have z5 := q5.2.1; have t5 := hb_70.2 L (_) (x4.toInt + 1) (L.length) q5.2 q5.1 (by omega) (by omega) (by omega) (by omega) (by omega) (by first | omega | (simp only [List.length_append, List.length_nil, List.length_cons, List.length_map, List.length_reverse, nw_len, dr_len]; omega)) t4; have k5 := si_len (L := L) (a := x4.toInt + 1) (b := L.length) (by omega) (by omega) (by omega); exact ⟨hb_77.2.1 _ t5, by omega, by omega, by omega, fun _ => hb_77.2.2⟩⟩
end
