section
variable {l : Launch} {g : pm_G} {b L : Nat} {xs : Nat → Int32} {J : pm_J} {xo h : Nat}
set_option maxRecDepth 100000 in
set_option maxHeartbeats 2000000 in
theorem lx_b2 (hC : pm_Cl l g (lw_ro b L xs) 7 600000 7302250 lw_Rt bk_L_law J) {i : Int32} (hi : 0 ≤ i.toInt ∧ i.toInt + 6 ≤ L) (hL : L ≤ 3072) {E : Nat} (hE : E < 1000) {A : pm_H} {c s : Nat} (hA : LX g xo h E A) (hc : c + 4 ≤ 600000) (hs0 : s + 485 ≤ 7302250) (cont : ∀ (A' : pm_H) (c' s' : Nat), LX g xo h (E + 1) A' → c' ≤ c + 4 → s' ≤ s + 485 → J 2563 [some (.ref b), some (.ref xo), some (.ref h), some (.int i)] [] A' c' s') : J 308 [some (.ref b), some (.ref xo), some (.ref h), some (.int i)] [] A c s := by
  obtain ⟨A00, K, nn, dn, q, w, e, v, f, mq, mv, mf, M, rfl, rfl, hI, hS, D, hv, hf, dj, hw, hE1, hE2, hR1, hR2, hg, he0, hN, hM, hB⟩ := hA
  have hu9 := hI.2.1
  unfold cw_W at hu9
  have hro : lw_ro b L xs b = some (L, xs) := if_pos rfl
  refine hC.1 2 308 _ _ rfl _ _ _ _ _ ?_
  intro m1 em1
  have e1 : m1.toInt = i.toInt + 1 := by rw [em1]; exact pm_addc _ _ 1 rfl (by omega) (by omega)
  refine Exists.intro _ (Exists.intro _ (And.intro (Or.inr hro) (And.intro (by omega) ?_)))
  obtain ⟨a1, ha1⟩ : ∃ z9, z9 = xs m1.toInt.toNat := ⟨_, rfl⟩
  have m_a1 := em1
  rw [← ha1]
  intro m2 em2
  have e2 : m2.toInt = i.toInt + 2 := by rw [em2]; exact pm_addc _ _ 2 rfl (by omega) (by omega)
  refine Exists.intro _ (Exists.intro _ (And.intro (Or.inr hro) (And.intro (by omega) ?_)))
  obtain ⟨a2, ha2⟩ : ∃ z9, z9 = xs m2.toInt.toNat := ⟨_, rfl⟩
  have m_a2 := em2
  rw [← ha2]
  refine And.intro (Exists.intro _ (cw_o0 hI.1)) (Exists.intro _ (Exists.intro _ (Exists.intro _ (Exists.intro _ (And.intro (H_X10_put hI hS a1 a2 (by omega)) (And.intro (lw_bnd rfl (by omega) (by omega) rfl) (fun r9 A9 h9 => ?_)))))))
  obtain ⟨K319, nn319, dn319, q319, w319, e319, v319, f319, rfl, hI319, hS319, hX319, hy319, y319, rfl, by319⟩ := h9
  have dj319 := lw_dj D dj hX319
  have fc9 := by319.2 M hR1 hN
  intro m3 em3
  have e3 : m3.toInt = i.toInt + 1 := by rw [em3]; exact pm_addc _ _ 1 rfl (by omega) (by omega)
  refine Exists.intro _ (Exists.intro _ (And.intro (Or.inr hro) (And.intro (by omega) ?_)))
  have ha1_3 : a1 = xs m3.toInt.toNat := by rw [ha1, em3, ← m_a1]
  rw [← ha1_3]
  intro m4 em4
  have e4 : m4.toInt = i.toInt + 2 := by rw [em4]; exact pm_addc _ _ 2 rfl (by omega) (by omega)
  refine Exists.intro _ (Exists.intro _ (And.intro (Or.inr hro) (And.intro (by omega) ?_)))
  have ha2_4 : a2 = xs m4.toInt.toNat := by rw [ha2, em4, ← m_a2]
  rw [← ha2_4]
  rw [cw_md D dj319]
  refine And.intro (Exists.intro _ (md_o)) (Exists.intro _ (Exists.intro _ (Exists.intro _ (Exists.intro _ (And.intro (F_X11_put D mv mf hv hf a1 a2 (by omega)) (And.intro (lw_bnd rfl (by omega) (by omega) rfl) (fun r9 A9 h9 => ?_)))))))
  obtain ⟨y334, mv334, mf334, rfl, rfl, hv334, hf334, hx334, by334⟩ := h9
  have fm9 := by334.2 M hR2
  exact cont _ _ _ ⟨A00, K319, nn319, dn319, q319, w319, e319, v319, f319, mq, mv334, mf334, _, (cw_md D dj319).symm, (hX319.2.1 0 (by omega)), hI319, hS319, D, hv334, hf334, dj319, fun j hj => by rw [hy319, hx334]; exact hw j hj, by omega, by omega, fc9.1, fm9.1, (pm_eqI (by rw [fc9.2.2.1, fm9.2.2, hg])), (by rw [fc9.2.1, fm9.2.1, he0]), fc9.2.2.2.1, (nm_paint hM), (fc9.2.2.2.2 hB)⟩ (by omega) (by omega)

set_option maxRecDepth 100000 in
set_option maxHeartbeats 2000000 in
theorem lx_b3 (hC : pm_Cl l g (lw_ro b L xs) 7 600000 7302250 lw_Rt bk_L_law J) {i : Int32} (hi : 0 ≤ i.toInt ∧ i.toInt + 6 ≤ L) (hL : L ≤ 3072) {E : Nat} (hE : E < 1000) {A : pm_H} {c s : Nat} (hA : LX g xo h E A) (hc : c + 4 ≤ 600000) (hs0 : s + 485 ≤ 7302250) (cont : ∀ (A' : pm_H) (c' s' : Nat), LX g xo h (E + 1) A' → c' ≤ c + 4 → s' ≤ s + 485 → J 2563 [some (.ref b), some (.ref xo), some (.ref h), some (.int i)] [] A' c' s') : J 341 [some (.ref b), some (.ref xo), some (.ref h), some (.int i)] [] A c s := by
  obtain ⟨A00, K, nn, dn, q, w, e, v, f, mq, mv, mf, M, rfl, rfl, hI, hS, D, hv, hf, dj, hw, hE1, hE2, hR1, hR2, hg, he0, hN, hM, hB⟩ := hA
  have hu9 := hI.2.1
  unfold cw_W at hu9
  have hro : lw_ro b L xs b = some (L, xs) := if_pos rfl
  refine hC.1 3 341 _ _ rfl _ _ _ _ _ ?_
  intro m1 em1
  have e1 : m1.toInt = i.toInt + 1 := by rw [em1]; exact pm_addc _ _ 1 rfl (by omega) (by omega)
  refine Exists.intro _ (Exists.intro _ (And.intro (Or.inr hro) (And.intro (by omega) ?_)))
  obtain ⟨a1, ha1⟩ : ∃ z9, z9 = xs m1.toInt.toNat := ⟨_, rfl⟩
  have m_a1 := em1
  rw [← ha1]
  intro m2 em2
  have e2 : m2.toInt = i.toInt + 2 := by rw [em2]; exact pm_addc _ _ 2 rfl (by omega) (by omega)
  refine Exists.intro _ (Exists.intro _ (And.intro (Or.inr hro) (And.intro (by omega) ?_)))
  obtain ⟨a2, ha2⟩ : ∃ z9, z9 = xs m2.toInt.toNat := ⟨_, rfl⟩
  have m_a2 := em2
  rw [← ha2]
  refine And.intro (Exists.intro _ (cw_o0 hI.1)) (Exists.intro _ (Exists.intro _ (Exists.intro _ (Exists.intro _ (And.intro (H_X10_insert hI hS a1 a2 (by omega)) (And.intro (lw_bnd rfl (by omega) (by omega) rfl) (fun r9 A9 h9 => ?_)))))))
  obtain ⟨K352, nn352, dn352, q352, w352, e352, v352, f352, rfl, hI352, hS352, hX352, hy352, y352, rfl, by352⟩ := h9
  have dj352 := lw_dj D dj hX352
  have fc9 := by352.2 M hR1 hN
  intro m3 em3
  have e3 : m3.toInt = i.toInt + 1 := by rw [em3]; exact pm_addc _ _ 1 rfl (by omega) (by omega)
  refine Exists.intro _ (Exists.intro _ (And.intro (Or.inr hro) (And.intro (by omega) ?_)))
  have ha1_3 : a1 = xs m3.toInt.toNat := by rw [ha1, em3, ← m_a1]
  rw [← ha1_3]
  intro m4 em4
  have e4 : m4.toInt = i.toInt + 2 := by rw [em4]; exact pm_addc _ _ 2 rfl (by omega) (by omega)
  refine Exists.intro _ (Exists.intro _ (And.intro (Or.inr hro) (And.intro (by omega) ?_)))
  have ha2_4 : a2 = xs m4.toInt.toNat := by rw [ha2, em4, ← m_a2]
  rw [← ha2_4]
  rw [cw_md D dj352]
  refine And.intro (Exists.intro _ (md_o)) (Exists.intro _ (Exists.intro _ (Exists.intro _ (Exists.intro _ (And.intro (F_X11_insert D mv mf hv hf a1 a2 (by omega)) (And.intro (lw_bnd rfl (by omega) (by omega) rfl) (fun r9 A9 h9 => ?_)))))))
  obtain ⟨y367, mv367, mf367, rfl, rfl, hv367, hf367, hx367, by367⟩ := h9
  have fm9 := by367.2 M hR2
  rw [← hg] at fm9
  exact cont _ _ _ ⟨A00, K352, nn352, dn352, q352, w352, e352, v352, f352, mq, mv367, mf367, _, (cw_md D dj352).symm, (hX352.2.1 0 (by omega)), hI352, hS352, D, hv367, hf367, dj352, fun j hj => by rw [hy352, hx367]; exact hw j hj, by omega, by omega, fc9.1, fm9.1, (pm_eqI (by rw [fc9.2.2.1, fm9.2.2, hg])), (by rw [fc9.2.1, fm9.2.1, he0]), fc9.2.2.2.1, (nm_insert hM (by omega)), (fc9.2.2.2.2 hB)⟩ (by omega) (by omega)

set_option maxRecDepth 100000 in
set_option maxHeartbeats 2000000 in
theorem lx_b4 (hC : pm_Cl l g (lw_ro b L xs) 7 600000 7302250 lw_Rt bk_L_law J) {i : Int32} (hi : 0 ≤ i.toInt ∧ i.toInt + 6 ≤ L) (hL : L ≤ 3072) {E : Nat} (hE : E < 1000) {A : pm_H} {c s : Nat} (hA : LX g xo h E A) (hc : c + 4 ≤ 600000) (hs0 : s + 485 ≤ 7302250) (cont : ∀ (A' : pm_H) (c' s' : Nat), LX g xo h (E + 1) A' → c' ≤ c + 4 → s' ≤ s + 485 → J 2563 [some (.ref b), some (.ref xo), some (.ref h), some (.int i)] [] A' c' s') : J 374 [some (.ref b), some (.ref xo), some (.ref h), some (.int i)] [] A c s := by
  obtain ⟨A00, K, nn, dn, q, w, e, v, f, mq, mv, mf, M, rfl, rfl, hI, hS, D, hv, hf, dj, hw, hE1, hE2, hR1, hR2, hg, he0, hN, hM, hB⟩ := hA
  have hu9 := hI.2.1
  unfold cw_W at hu9
  have hro : lw_ro b L xs b = some (L, xs) := if_pos rfl
  refine hC.1 4 374 _ _ rfl _ _ _ _ _ ?_
  intro m1 em1
  have e1 : m1.toInt = i.toInt + 1 := by rw [em1]; exact pm_addc _ _ 1 rfl (by omega) (by omega)
  refine Exists.intro _ (Exists.intro _ (And.intro (Or.inr hro) (And.intro (by omega) ?_)))
  obtain ⟨a1, ha1⟩ : ∃ z9, z9 = xs m1.toInt.toNat := ⟨_, rfl⟩
  have m_a1 := em1
  rw [← ha1]
  intro m2 em2
  have e2 : m2.toInt = i.toInt + 2 := by rw [em2]; exact pm_addc _ _ 2 rfl (by omega) (by omega)
  refine Exists.intro _ (Exists.intro _ (And.intro (Or.inr hro) (And.intro (by omega) ?_)))
  obtain ⟨a2, ha2⟩ : ∃ z9, z9 = xs m2.toInt.toNat := ⟨_, rfl⟩
  have m_a2 := em2
  rw [← ha2]
  refine And.intro (Exists.intro _ (cw_o0 hI.1)) (Exists.intro _ (Exists.intro _ (Exists.intro _ (Exists.intro _ (And.intro (H_X10_cut hI hS a1 a2 (by omega)) (And.intro (lw_bnd rfl (by omega) (by omega) rfl) (fun r9 A9 h9 => ?_)))))))
  obtain ⟨K385, nn385, dn385, q385, w385, e385, v385, f385, rfl, hI385, hS385, hX385, hy385, y385, rfl, by385⟩ := h9
  have dj385 := lw_dj D dj hX385
  have fc9 := by385.2 M hR1 hN
  intro m3 em3
  have e3 : m3.toInt = i.toInt + 1 := by rw [em3]; exact pm_addc _ _ 1 rfl (by omega) (by omega)
  refine Exists.intro _ (Exists.intro _ (And.intro (Or.inr hro) (And.intro (by omega) ?_)))
  have ha1_3 : a1 = xs m3.toInt.toNat := by rw [ha1, em3, ← m_a1]
  rw [← ha1_3]
  intro m4 em4
  have e4 : m4.toInt = i.toInt + 2 := by rw [em4]; exact pm_addc _ _ 2 rfl (by omega) (by omega)
  refine Exists.intro _ (Exists.intro _ (And.intro (Or.inr hro) (And.intro (by omega) ?_)))
  have ha2_4 : a2 = xs m4.toInt.toNat := by rw [ha2, em4, ← m_a2]
  rw [← ha2_4]
  rw [cw_md D dj385]
  refine And.intro (Exists.intro _ (md_o)) (Exists.intro _ (Exists.intro _ (Exists.intro _ (Exists.intro _ (And.intro (F_X11_cut D mv mf hv hf a1 a2 (by omega)) (And.intro (lw_bnd rfl (by omega) (by omega) rfl) (fun r9 A9 h9 => ?_)))))))
  obtain ⟨y400, mv400, mf400, rfl, rfl, hv400, hf400, hx400, by400⟩ := h9
  have fm9 := by400.2 M hR2
  exact cont _ _ _ ⟨A00, K385, nn385, dn385, q385, w385, e385, v385, f385, mq, mv400, mf400, _, (cw_md D dj385).symm, (hX385.2.1 0 (by omega)), hI385, hS385, D, hv400, hf400, dj385, fun j hj => by rw [hy385, hx400]; exact hw j hj, by omega, by omega, fc9.1, fm9.1, (pm_eqI (by rw [fc9.2.2.1, fm9.2.2, hg])), (by rw [fc9.2.1, fm9.2.1, he0]), fc9.2.2.2.1, (nm_cut hM), (fc9.2.2.2.2 hB)⟩ (by omega) (by omega)

set_option maxRecDepth 100000 in
set_option maxHeartbeats 2000000 in
theorem lx_b5 (hC : pm_Cl l g (lw_ro b L xs) 7 600000 7302250 lw_Rt bk_L_law J) {i : Int32} (hi : 0 ≤ i.toInt ∧ i.toInt + 6 ≤ L) (hL : L ≤ 3072) {E : Nat} (hE : E < 1000) {A : pm_H} {c s : Nat} (hA : LX g xo h E A) (hc : c + 4 ≤ 600000) (hs0 : s + 485 ≤ 7302250) (cont : ∀ (A' : pm_H) (c' s' : Nat), LX g xo h (E + 1) A' → c' ≤ c + 4 → s' ≤ s + 485 → J 2563 [some (.ref b), some (.ref xo), some (.ref h), some (.int i)] [] A' c' s') : J 407 [some (.ref b), some (.ref xo), some (.ref h), some (.int i)] [] A c s := by
  obtain ⟨A00, K, nn, dn, q, w, e, v, f, mq, mv, mf, M, rfl, rfl, hI, hS, D, hv, hf, dj, hw, hE1, hE2, hR1, hR2, hg, he0, hN, hM, hB⟩ := hA
  have hu9 := hI.2.1
  unfold cw_W at hu9
  have hro : lw_ro b L xs b = some (L, xs) := if_pos rfl
  refine hC.1 5 407 _ _ rfl _ _ _ _ _ ?_
  intro m1 em1
  have e1 : m1.toInt = i.toInt + 1 := by rw [em1]; exact pm_addc _ _ 1 rfl (by omega) (by omega)
  refine Exists.intro _ (Exists.intro _ (And.intro (Or.inr hro) (And.intro (by omega) ?_)))
  obtain ⟨a1, ha1⟩ : ∃ z9, z9 = xs m1.toInt.toNat := ⟨_, rfl⟩
  have m_a1 := em1
  rw [← ha1]
  intro m2 em2
  have e2 : m2.toInt = i.toInt + 2 := by rw [em2]; exact pm_addc _ _ 2 rfl (by omega) (by omega)
  refine Exists.intro _ (Exists.intro _ (And.intro (Or.inr hro) (And.intro (by omega) ?_)))
  obtain ⟨a2, ha2⟩ : ∃ z9, z9 = xs m2.toInt.toNat := ⟨_, rfl⟩
  have m_a2 := em2
  rw [← ha2]
  intro m3 em3
  have e3 : m3.toInt = i.toInt + 3 := by rw [em3]; exact pm_addc _ _ 3 rfl (by omega) (by omega)
  refine Exists.intro _ (Exists.intro _ (And.intro (Or.inr hro) (And.intro (by omega) ?_)))
  obtain ⟨a3, ha3⟩ : ∃ z9, z9 = xs m3.toInt.toNat := ⟨_, rfl⟩
  have m_a3 := em3
  rw [← ha3]
  refine And.intro (Exists.intro _ (cw_o0 hI.1)) (Exists.intro _ (Exists.intro _ (Exists.intro _ (Exists.intro _ (And.intro (H_X10_paint hI hS a1 a2 a3 (by omega)) (And.intro (lw_bnd rfl (by omega) (by omega) rfl) (fun r9 A9 h9 => ?_)))))))
  obtain ⟨K423, nn423, dn423, q423, w423, e423, v423, f423, rfl, hI423, hS423, hX423, hy423, y423, rfl, by423⟩ := h9
  have dj423 := lw_dj D dj hX423
  have fc9 := by423.2 M hR1 hN
  intro m4 em4
  have e4 : m4.toInt = i.toInt + 1 := by rw [em4]; exact pm_addc _ _ 1 rfl (by omega) (by omega)
  refine Exists.intro _ (Exists.intro _ (And.intro (Or.inr hro) (And.intro (by omega) ?_)))
  have ha1_4 : a1 = xs m4.toInt.toNat := by rw [ha1, em4, ← m_a1]
  rw [← ha1_4]
  intro m5 em5
  have e5 : m5.toInt = i.toInt + 2 := by rw [em5]; exact pm_addc _ _ 2 rfl (by omega) (by omega)
  refine Exists.intro _ (Exists.intro _ (And.intro (Or.inr hro) (And.intro (by omega) ?_)))
  have ha2_5 : a2 = xs m5.toInt.toNat := by rw [ha2, em5, ← m_a2]
  rw [← ha2_5]
  intro m6 em6
  have e6 : m6.toInt = i.toInt + 3 := by rw [em6]; exact pm_addc _ _ 3 rfl (by omega) (by omega)
  refine Exists.intro _ (Exists.intro _ (And.intro (Or.inr hro) (And.intro (by omega) ?_)))
  have ha3_6 : a3 = xs m6.toInt.toNat := by rw [ha3, em6, ← m_a3]
  rw [← ha3_6]
  rw [cw_md D dj423]
  refine And.intro (Exists.intro _ (md_o)) (Exists.intro _ (Exists.intro _ (Exists.intro _ (Exists.intro _ (And.intro (F_X11_paint D mv mf hv hf a1 a2 a3 (by omega)) (And.intro (lw_bnd rfl (by omega) (by omega) rfl) (fun r9 A9 h9 => ?_)))))))
  obtain ⟨y443, mv443, mf443, rfl, rfl, hv443, hf443, hx443, by443⟩ := h9
  have fm9 := by443.2 M hR2
  exact cont _ _ _ ⟨A00, K423, nn423, dn423, q423, w423, e423, v423, f423, mq, mv443, mf443, _, (cw_md D dj423).symm, (hX423.2.1 0 (by omega)), hI423, hS423, D, hv443, hf443, dj423, fun j hj => by rw [hy423, hx443]; exact hw j hj, by omega, by omega, fc9.1, fm9.1, (pm_eqI (by rw [fc9.2.2.1, fm9.2.2, hg])), (by rw [fc9.2.1, fm9.2.1, he0]), fc9.2.2.2.1, (nm_paint hM), (fc9.2.2.2.2 hB)⟩ (by omega) (by omega)

set_option maxRecDepth 100000 in
set_option maxHeartbeats 2000000 in
theorem lx_b6 (hC : pm_Cl l g (lw_ro b L xs) 7 600000 7302250 lw_Rt bk_L_law J) {i : Int32} (hi : 0 ≤ i.toInt ∧ i.toInt + 6 ≤ L) (hL : L ≤ 3072) {E : Nat} (hE : E < 1000) {A : pm_H} {c s : Nat} (hA : LX g xo h E A) (hc : c + 4 ≤ 600000) (hs0 : s + 485 ≤ 7302250) (cont : ∀ (A' : pm_H) (c' s' : Nat), LX g xo h (E + 1) A' → c' ≤ c + 4 → s' ≤ s + 485 → J 2563 [some (.ref b), some (.ref xo), some (.ref h), some (.int i)] [] A' c' s') : J 450 [some (.ref b), some (.ref xo), some (.ref h), some (.int i)] [] A c s := by
  obtain ⟨A00, K, nn, dn, q, w, e, v, f, mq, mv, mf, M, rfl, rfl, hI, hS, D, hv, hf, dj, hw, hE1, hE2, hR1, hR2, hg, he0, hN, hM, hB⟩ := hA
  have hu9 := hI.2.1
  unfold cw_W at hu9
  have hro : lw_ro b L xs b = some (L, xs) := if_pos rfl
  refine hC.1 6 450 _ _ rfl _ _ _ _ _ ?_
  intro m1 em1
  have e1 : m1.toInt = i.toInt + 1 := by rw [em1]; exact pm_addc _ _ 1 rfl (by omega) (by omega)
  refine Exists.intro _ (Exists.intro _ (And.intro (Or.inr hro) (And.intro (by omega) ?_)))
  obtain ⟨a1, ha1⟩ : ∃ z9, z9 = xs m1.toInt.toNat := ⟨_, rfl⟩
  have m_a1 := em1
  rw [← ha1]
  intro m2 em2
  have e2 : m2.toInt = i.toInt + 2 := by rw [em2]; exact pm_addc _ _ 2 rfl (by omega) (by omega)
  refine Exists.intro _ (Exists.intro _ (And.intro (Or.inr hro) (And.intro (by omega) ?_)))
  obtain ⟨a2, ha2⟩ : ∃ z9, z9 = xs m2.toInt.toNat := ⟨_, rfl⟩
  have m_a2 := em2
  rw [← ha2]
  refine And.intro (Exists.intro _ (cw_o0 hI.1)) (Exists.intro _ (Exists.intro _ (Exists.intro _ (Exists.intro _ (And.intro (H_X10_turn hI hS a1 a2 (by omega)) (And.intro (lw_bnd rfl (by omega) (by omega) rfl) (fun r9 A9 h9 => ?_)))))))
  obtain ⟨K461, nn461, dn461, q461, w461, e461, v461, f461, rfl, hI461, hS461, hX461, hy461, y461, rfl, by461⟩ := h9
  have dj461 := lw_dj D dj hX461
  have fc9 := by461.2 M hR1 hN
  intro m3 em3
  have e3 : m3.toInt = i.toInt + 1 := by rw [em3]; exact pm_addc _ _ 1 rfl (by omega) (by omega)
  refine Exists.intro _ (Exists.intro _ (And.intro (Or.inr hro) (And.intro (by omega) ?_)))
  have ha1_3 : a1 = xs m3.toInt.toNat := by rw [ha1, em3, ← m_a1]
  rw [← ha1_3]
  intro m4 em4
  have e4 : m4.toInt = i.toInt + 2 := by rw [em4]; exact pm_addc _ _ 2 rfl (by omega) (by omega)
  refine Exists.intro _ (Exists.intro _ (And.intro (Or.inr hro) (And.intro (by omega) ?_)))
  have ha2_4 : a2 = xs m4.toInt.toNat := by rw [ha2, em4, ← m_a2]
  rw [← ha2_4]
  rw [cw_md D dj461]
  refine And.intro (Exists.intro _ (md_o)) (Exists.intro _ (Exists.intro _ (Exists.intro _ (Exists.intro _ (And.intro (F_X11_turn D mv mf hv hf a1 a2 (by omega)) (And.intro (lw_bnd rfl (by omega) (by omega) rfl) (fun r9 A9 h9 => ?_)))))))
  obtain ⟨y476, mv476, mf476, rfl, rfl, hv476, hf476, hx476, by476⟩ := h9
  have fm9 := by476.2 M hR2
  exact cont _ _ _ ⟨A00, K461, nn461, dn461, q461, w461, e461, v461, f461, mq, mv476, mf476, _, (cw_md D dj461).symm, (hX461.2.1 0 (by omega)), hI461, hS461, D, hv476, hf476, dj461, fun j hj => by rw [hy461, hx476]; exact hw j hj, by omega, by omega, fc9.1, fm9.1, (pm_eqI (by rw [fc9.2.2.1, fm9.2.2, hg])), (by rw [fc9.2.1, fm9.2.1, he0]), fc9.2.2.2.1, (nm_turn hM), (fc9.2.2.2.2 hB)⟩ (by omega) (by omega)

set_option maxRecDepth 100000 in
set_option maxHeartbeats 2000000 in
theorem lx_b7 (hC : pm_Cl l g (lw_ro b L xs) 7 600000 7302250 lw_Rt bk_L_law J) {i : Int32} (hi : 0 ≤ i.toInt ∧ i.toInt + 6 ≤ L) (hL : L ≤ 3072) {E : Nat} (hE : E < 1000) {A : pm_H} {c s : Nat} (hA : LX g xo h E A) (hc : c + 4 ≤ 600000) (hs0 : s + 485 ≤ 7302250) (cont : ∀ (A' : pm_H) (c' s' : Nat), LX g xo h (E + 1) A' → c' ≤ c + 4 → s' ≤ s + 485 → J 2563 [some (.ref b), some (.ref xo), some (.ref h), some (.int i)] [] A' c' s') : J 483 [some (.ref b), some (.ref xo), some (.ref h), some (.int i)] [] A c s := by
  obtain ⟨A00, K, nn, dn, q, w, e, v, f, mq, mv, mf, M, rfl, rfl, hI, hS, D, hv, hf, dj, hw, hE1, hE2, hR1, hR2, hg, he0, hN, hM, hB⟩ := hA
  have hu9 := hI.2.1
  unfold cw_W at hu9
  have hro : lw_ro b L xs b = some (L, xs) := if_pos rfl
  refine hC.1 7 483 _ _ rfl _ _ _ _ _ ?_
  intro m1 em1
  have e1 : m1.toInt = i.toInt + 1 := by rw [em1]; exact pm_addc _ _ 1 rfl (by omega) (by omega)
  refine Exists.intro _ (Exists.intro _ (And.intro (Or.inr hro) (And.intro (by omega) ?_)))
  obtain ⟨a1, ha1⟩ : ∃ z9, z9 = xs m1.toInt.toNat := ⟨_, rfl⟩
  have m_a1 := em1
  rw [← ha1]
  intro m2 em2
  have e2 : m2.toInt = i.toInt + 2 := by rw [em2]; exact pm_addc _ _ 2 rfl (by omega) (by omega)
  refine Exists.intro _ (Exists.intro _ (And.intro (Or.inr hro) (And.intro (by omega) ?_)))
  obtain ⟨a2, ha2⟩ : ∃ z9, z9 = xs m2.toInt.toNat := ⟨_, rfl⟩
  have m_a2 := em2
  rw [← ha2]
  intro m3 em3
  have e3 : m3.toInt = i.toInt + 3 := by rw [em3]; exact pm_addc _ _ 3 rfl (by omega) (by omega)
  refine Exists.intro _ (Exists.intro _ (And.intro (Or.inr hro) (And.intro (by omega) ?_)))
  obtain ⟨a3, ha3⟩ : ∃ z9, z9 = xs m3.toInt.toNat := ⟨_, rfl⟩
  have m_a3 := em3
  rw [← ha3]
  refine And.intro (Exists.intro _ (cw_o0 hI.1)) (Exists.intro _ (Exists.intro _ (Exists.intro _ (Exists.intro _ (And.intro (H_X10_shift hI hS a1 a2 a3 (by omega)) (And.intro (lw_bnd rfl (by omega) (by omega) rfl) (fun r9 A9 h9 => ?_)))))))
  obtain ⟨K499, nn499, dn499, q499, w499, e499, v499, f499, rfl, hI499, hS499, hX499, hy499, y499, rfl, by499⟩ := h9
  have dj499 := lw_dj D dj hX499
  have fc9 := by499.2 M hR1 hN
  intro m4 em4
  have e4 : m4.toInt = i.toInt + 1 := by rw [em4]; exact pm_addc _ _ 1 rfl (by omega) (by omega)
  refine Exists.intro _ (Exists.intro _ (And.intro (Or.inr hro) (And.intro (by omega) ?_)))
  have ha1_4 : a1 = xs m4.toInt.toNat := by rw [ha1, em4, ← m_a1]
  rw [← ha1_4]
  intro m5 em5
  have e5 : m5.toInt = i.toInt + 2 := by rw [em5]; exact pm_addc _ _ 2 rfl (by omega) (by omega)
  refine Exists.intro _ (Exists.intro _ (And.intro (Or.inr hro) (And.intro (by omega) ?_)))
  have ha2_5 : a2 = xs m5.toInt.toNat := by rw [ha2, em5, ← m_a2]
  rw [← ha2_5]
  intro m6 em6
  have e6 : m6.toInt = i.toInt + 3 := by rw [em6]; exact pm_addc _ _ 3 rfl (by omega) (by omega)
  refine Exists.intro _ (Exists.intro _ (And.intro (Or.inr hro) (And.intro (by omega) ?_)))
  have ha3_6 : a3 = xs m6.toInt.toNat := by rw [ha3, em6, ← m_a3]
  rw [← ha3_6]
  rw [cw_md D dj499]
  refine And.intro (Exists.intro _ (md_o)) (Exists.intro _ (Exists.intro _ (Exists.intro _ (Exists.intro _ (And.intro (F_X11_shift D mv mf hv hf a1 a2 a3 (by omega)) (And.intro (lw_bnd rfl (by omega) (by omega) rfl) (fun r9 A9 h9 => ?_)))))))
  obtain ⟨y519, mv519, mf519, rfl, rfl, hv519, hf519, hx519, by519⟩ := h9
  have fm9 := by519.2 M hR2
  exact cont _ _ _ ⟨A00, K499, nn499, dn499, q499, w499, e499, v499, f499, mq, mv519, mf519, _, (cw_md D dj499).symm, (hX499.2.1 0 (by omega)), hI499, hS499, D, hv519, hf519, dj499, fun j hj => by rw [hy499, hx519]; exact hw j hj, by omega, by omega, fc9.1, fm9.1, (pm_eqI (by rw [fc9.2.2.1, fm9.2.2, hg])), (by rw [fc9.2.1, fm9.2.1, he0]), fc9.2.2.2.1, (nm_shift hM), (fc9.2.2.2.2 hB)⟩ (by omega) (by omega)

set_option maxRecDepth 100000 in
set_option maxHeartbeats 2000000 in
theorem lx_b8 (hC : pm_Cl l g (lw_ro b L xs) 7 600000 7302250 lw_Rt bk_L_law J) {i : Int32} (hi : 0 ≤ i.toInt ∧ i.toInt + 6 ≤ L) (hL : L ≤ 3072) {E : Nat} (hE : E < 1000) {A : pm_H} {c s : Nat} (hA : LX g xo h E A) (hc : c + 4 ≤ 600000) (hs0 : s + 485 ≤ 7302250) (cont : ∀ (A' : pm_H) (c' s' : Nat), LX g xo h (E + 1) A' → c' ≤ c + 4 → s' ≤ s + 485 → J 2563 [some (.ref b), some (.ref xo), some (.ref h), some (.int i)] [] A' c' s') : J 526 [some (.ref b), some (.ref xo), some (.ref h), some (.int i)] [] A c s := by
  obtain ⟨A00, K, nn, dn, q, w, e, v, f, mq, mv, mf, M, rfl, rfl, hI, hS, D, hv, hf, dj, hw, hE1, hE2, hR1, hR2, hg, he0, hN, hM, hB⟩ := hA
  have hu9 := hI.2.1
  unfold cw_W at hu9
  have hro : lw_ro b L xs b = some (L, xs) := if_pos rfl
  refine hC.1 8 526 _ _ rfl _ _ _ _ _ ?_
  intro m1 em1
  have e1 : m1.toInt = i.toInt + 1 := by rw [em1]; exact pm_addc _ _ 1 rfl (by omega) (by omega)
  refine Exists.intro _ (Exists.intro _ (And.intro (Or.inr hro) (And.intro (by omega) ?_)))
  obtain ⟨a1, ha1⟩ : ∃ z9, z9 = xs m1.toInt.toNat := ⟨_, rfl⟩
  have m_a1 := em1
  rw [← ha1]
  intro m2 em2
  have e2 : m2.toInt = i.toInt + 2 := by rw [em2]; exact pm_addc _ _ 2 rfl (by omega) (by omega)
  refine Exists.intro _ (Exists.intro _ (And.intro (Or.inr hro) (And.intro (by omega) ?_)))
  obtain ⟨a2, ha2⟩ : ∃ z9, z9 = xs m2.toInt.toNat := ⟨_, rfl⟩
  have m_a2 := em2
  rw [← ha2]
  refine And.intro (Exists.intro _ (cw_o0 hI.1)) (Exists.intro _ (Exists.intro _ (Exists.intro _ (Exists.intro _ (And.intro (H_X10_sort hI hS a1 a2 (by omega)) (And.intro (lw_bnd rfl (by omega) (by omega) rfl) (fun r9 A9 h9 => ?_)))))))
  obtain ⟨K537, nn537, dn537, q537, w537, e537, v537, f537, rfl, hI537, hS537, hX537, hy537, y537, rfl, by537⟩ := h9
  have dj537 := lw_dj D dj hX537
  have fc9 := by537.2 M hR1 hN
  intro m3 em3
  have e3 : m3.toInt = i.toInt + 1 := by rw [em3]; exact pm_addc _ _ 1 rfl (by omega) (by omega)
  refine Exists.intro _ (Exists.intro _ (And.intro (Or.inr hro) (And.intro (by omega) ?_)))
  have ha1_3 : a1 = xs m3.toInt.toNat := by rw [ha1, em3, ← m_a1]
  rw [← ha1_3]
  intro m4 em4
  have e4 : m4.toInt = i.toInt + 2 := by rw [em4]; exact pm_addc _ _ 2 rfl (by omega) (by omega)
  refine Exists.intro _ (Exists.intro _ (And.intro (Or.inr hro) (And.intro (by omega) ?_)))
  have ha2_4 : a2 = xs m4.toInt.toNat := by rw [ha2, em4, ← m_a2]
  rw [← ha2_4]
  rw [cw_md D dj537]
  refine And.intro (Exists.intro _ (md_o)) (Exists.intro _ (Exists.intro _ (Exists.intro _ (Exists.intro _ (And.intro (F_X11_sort D mv mf hv hf a1 a2 (by omega)) (And.intro (lw_bnd rfl (by omega) (by omega) rfl) (fun r9 A9 h9 => ?_)))))))
  obtain ⟨y552, mv552, mf552, rfl, rfl, hv552, hf552, hx552, by552⟩ := h9
  have fm9 := by552.2 M hR2
  exact cont _ _ _ ⟨A00, K537, nn537, dn537, q537, w537, e537, v537, f537, mq, mv552, mf552, _, (cw_md D dj537).symm, (hX537.2.1 0 (by omega)), hI537, hS537, D, hv552, hf552, dj537, fun j hj => by rw [hy537, hx552]; exact hw j hj, by omega, by omega, fc9.1, fm9.1, (pm_eqI (by rw [fc9.2.2.1, fm9.2.2, hg])), (by rw [fc9.2.1, fm9.2.1, he0]), fc9.2.2.2.1, (nm_sort hM), (fc9.2.2.2.2 hB)⟩ (by omega) (by omega)

set_option maxRecDepth 100000 in
set_option maxHeartbeats 2000000 in
theorem lx_b9 (hC : pm_Cl l g (lw_ro b L xs) 7 600000 7302250 lw_Rt bk_L_law J) {i : Int32} (hi : 0 ≤ i.toInt ∧ i.toInt + 6 ≤ L) (hL : L ≤ 3072) {E : Nat} (hE : E < 1000) {A : pm_H} {c s : Nat} (hA : LX g xo h E A) (hc : c + 4 ≤ 600000) (hs0 : s + 485 ≤ 7302250) (cont : ∀ (A' : pm_H) (c' s' : Nat), LX g xo h (E + 1) A' → c' ≤ c + 4 → s' ≤ s + 485 → J 2563 [some (.ref b), some (.ref xo), some (.ref h), some (.int i)] [] A' c' s') : J 559 [some (.ref b), some (.ref xo), some (.ref h), some (.int i)] [] A c s := by
  obtain ⟨A00, K, nn, dn, q, w, e, v, f, mq, mv, mf, M, rfl, rfl, hI, hS, D, hv, hf, dj, hw, hE1, hE2, hR1, hR2, hg, he0, hN, hM, hB⟩ := hA
  have hu9 := hI.2.1
  unfold cw_W at hu9
  have hro : lw_ro b L xs b = some (L, xs) := if_pos rfl
  refine hC.1 9 559 _ _ rfl _ _ _ _ _ ?_
  intro m1 em1
  have e1 : m1.toInt = i.toInt + 1 := by rw [em1]; exact pm_addc _ _ 1 rfl (by omega) (by omega)
  refine Exists.intro _ (Exists.intro _ (And.intro (Or.inr hro) (And.intro (by omega) ?_)))
  obtain ⟨a1, ha1⟩ : ∃ z9, z9 = xs m1.toInt.toNat := ⟨_, rfl⟩
  have m_a1 := em1
  rw [← ha1]
  intro m2 em2
  have e2 : m2.toInt = i.toInt + 2 := by rw [em2]; exact pm_addc _ _ 2 rfl (by omega) (by omega)
  refine Exists.intro _ (Exists.intro _ (And.intro (Or.inr hro) (And.intro (by omega) ?_)))
  obtain ⟨a2, ha2⟩ : ∃ z9, z9 = xs m2.toInt.toNat := ⟨_, rfl⟩
  have m_a2 := em2
  rw [← ha2]
  intro m3 em3
  have e3 : m3.toInt = i.toInt + 3 := by rw [em3]; exact pm_addc _ _ 3 rfl (by omega) (by omega)
  refine Exists.intro _ (Exists.intro _ (And.intro (Or.inr hro) (And.intro (by omega) ?_)))
  obtain ⟨a3, ha3⟩ : ∃ z9, z9 = xs m3.toInt.toNat := ⟨_, rfl⟩
  have m_a3 := em3
  rw [← ha3]
  intro m4 em4
  have e4 : m4.toInt = i.toInt + 4 := by rw [em4]; exact pm_addc _ _ 4 rfl (by omega) (by omega)
  refine Exists.intro _ (Exists.intro _ (And.intro (Or.inr hro) (And.intro (by omega) ?_)))
  obtain ⟨a4, ha4⟩ : ∃ z9, z9 = xs m4.toInt.toNat := ⟨_, rfl⟩
  have m_a4 := em4
  rw [← ha4]
  refine And.intro (Exists.intro _ (cw_o0 hI.1)) (Exists.intro _ (Exists.intro _ (Exists.intro _ (Exists.intro _ (And.intro (H_X10_swap hI hS a1 a2 a3 a4 (by omega)) (And.intro (lw_bnd rfl (by omega) (by omega) rfl) (fun r9 A9 h9 => ?_)))))))
  obtain ⟨K580, nn580, dn580, q580, w580, e580, v580, f580, rfl, hI580, hS580, hX580, hy580, y580, rfl, by580⟩ := h9
  have dj580 := lw_dj D dj hX580
  have fc9 := by580.2 M hR1 hN
  intro m5 em5
  have e5 : m5.toInt = i.toInt + 1 := by rw [em5]; exact pm_addc _ _ 1 rfl (by omega) (by omega)
  refine Exists.intro _ (Exists.intro _ (And.intro (Or.inr hro) (And.intro (by omega) ?_)))
  have ha1_5 : a1 = xs m5.toInt.toNat := by rw [ha1, em5, ← m_a1]
  rw [← ha1_5]
  intro m6 em6
  have e6 : m6.toInt = i.toInt + 2 := by rw [em6]; exact pm_addc _ _ 2 rfl (by omega) (by omega)
  refine Exists.intro _ (Exists.intro _ (And.intro (Or.inr hro) (And.intro (by omega) ?_)))
  have ha2_6 : a2 = xs m6.toInt.toNat := by rw [ha2, em6, ← m_a2]
  rw [← ha2_6]
  intro m7 em7
  have e7 : m7.toInt = i.toInt + 3 := by rw [em7]; exact pm_addc _ _ 3 rfl (by omega) (by omega)
  refine Exists.intro _ (Exists.intro _ (And.intro (Or.inr hro) (And.intro (by omega) ?_)))
  have ha3_7 : a3 = xs m7.toInt.toNat := by rw [ha3, em7, ← m_a3]
  rw [← ha3_7]
  intro m8 em8
  have e8 : m8.toInt = i.toInt + 4 := by rw [em8]; exact pm_addc _ _ 4 rfl (by omega) (by omega)
  refine Exists.intro _ (Exists.intro _ (And.intro (Or.inr hro) (And.intro (by omega) ?_)))
  have ha4_8 : a4 = xs m8.toInt.toNat := by rw [ha4, em8, ← m_a4]
  rw [← ha4_8]
  rw [cw_md D dj580]
  refine And.intro (Exists.intro _ (md_o)) (Exists.intro _ (Exists.intro _ (Exists.intro _ (Exists.intro _ (And.intro (F_X11_swap D mv mf hv hf a1 a2 a3 a4 (by omega)) (And.intro (lw_bnd rfl (by omega) (by omega) rfl) (fun r9 A9 h9 => ?_)))))))
  obtain ⟨y605, mv605, mf605, rfl, rfl, hv605, hf605, hx605, by605⟩ := h9
  have fm9 := by605.2 M hR2
  exact cont _ _ _ ⟨A00, K580, nn580, dn580, q580, w580, e580, v580, f580, mq, mv605, mf605, _, (cw_md D dj580).symm, (hX580.2.1 0 (by omega)), hI580, hS580, D, hv605, hf605, dj580, fun j hj => by rw [hy580, hx605]; exact hw j hj, by omega, by omega, fc9.1, fm9.1, (pm_eqI (by rw [fc9.2.2.1, fm9.2.2, hg])), (by rw [fc9.2.1, fm9.2.1, he0]), fc9.2.2.2.1, (nm_swap hM), (fc9.2.2.2.2 hB)⟩ (by omega) (by omega)

set_option maxRecDepth 100000 in
set_option maxHeartbeats 2000000 in
theorem lx_b10 (hC : pm_Cl l g (lw_ro b L xs) 7 600000 7302250 lw_Rt bk_L_law J) {i : Int32} (hi : 0 ≤ i.toInt ∧ i.toInt + 6 ≤ L) (hL : L ≤ 3072) {E : Nat} (hE : E < 1000) {A : pm_H} {c s : Nat} (hA : LX g xo h E A) (hc : c + 4 ≤ 600000) (hs0 : s + 485 ≤ 7302250) (cont : ∀ (A' : pm_H) (c' s' : Nat), LX g xo h (E + 1) A' → c' ≤ c + 4 → s' ≤ s + 485 → J 2563 [some (.ref b), some (.ref xo), some (.ref h), some (.int i)] [] A' c' s') : J 612 [some (.ref b), some (.ref xo), some (.ref h), some (.int i)] [] A c s := by
  obtain ⟨A00, K, nn, dn, q, w, e, v, f, mq, mv, mf, M, rfl, rfl, hI, hS, D, hv, hf, dj, hw, hE1, hE2, hR1, hR2, hg, he0, hN, hM, hB⟩ := hA
  have hu9 := hI.2.1
  unfold cw_W at hu9
  have hro : lw_ro b L xs b = some (L, xs) := if_pos rfl
  refine hC.1 10 612 _ _ rfl _ _ _ _ _ ?_
  intro m1 em1
  have e1 : m1.toInt = i.toInt + 1 := by rw [em1]; exact pm_addc _ _ 1 rfl (by omega) (by omega)
  refine Exists.intro _ (Exists.intro _ (And.intro (Or.inr hro) (And.intro (by omega) ?_)))
  obtain ⟨a1, ha1⟩ : ∃ z9, z9 = xs m1.toInt.toNat := ⟨_, rfl⟩
  have m_a1 := em1
  rw [← ha1]
  intro m2 em2
  have e2 : m2.toInt = i.toInt + 2 := by rw [em2]; exact pm_addc _ _ 2 rfl (by omega) (by omega)
  refine Exists.intro _ (Exists.intro _ (And.intro (Or.inr hro) (And.intro (by omega) ?_)))
  obtain ⟨a2, ha2⟩ : ∃ z9, z9 = xs m2.toInt.toNat := ⟨_, rfl⟩
  have m_a2 := em2
  rw [← ha2]
  intro m3 em3
  have e3 : m3.toInt = i.toInt + 3 := by rw [em3]; exact pm_addc _ _ 3 rfl (by omega) (by omega)
  refine Exists.intro _ (Exists.intro _ (And.intro (Or.inr hro) (And.intro (by omega) ?_)))
  obtain ⟨a3, ha3⟩ : ∃ z9, z9 = xs m3.toInt.toNat := ⟨_, rfl⟩
  have m_a3 := em3
  rw [← ha3]
  refine And.intro (Exists.intro _ (cw_o0 hI.1)) (Exists.intro _ (Exists.intro _ (Exists.intro _ (Exists.intro _ (And.intro (H_X10_copy hI hS a1 a2 a3 (by omega)) (And.intro (lw_bnd rfl (by omega) (by omega) rfl) (fun r9 A9 h9 => ?_)))))))
  obtain ⟨K628, nn628, dn628, q628, w628, e628, v628, f628, rfl, hI628, hS628, hX628, hy628, y628, rfl, by628⟩ := h9
  have dj628 := lw_dj D dj hX628
  have fc9 := by628.2 M hR1 hN
  intro m4 em4
  have e4 : m4.toInt = i.toInt + 1 := by rw [em4]; exact pm_addc _ _ 1 rfl (by omega) (by omega)
  refine Exists.intro _ (Exists.intro _ (And.intro (Or.inr hro) (And.intro (by omega) ?_)))
  have ha1_4 : a1 = xs m4.toInt.toNat := by rw [ha1, em4, ← m_a1]
  rw [← ha1_4]
  intro m5 em5
  have e5 : m5.toInt = i.toInt + 2 := by rw [em5]; exact pm_addc _ _ 2 rfl (by omega) (by omega)
  refine Exists.intro _ (Exists.intro _ (And.intro (Or.inr hro) (And.intro (by omega) ?_)))
  have ha2_5 : a2 = xs m5.toInt.toNat := by rw [ha2, em5, ← m_a2]
  rw [← ha2_5]
  intro m6 em6
  have e6 : m6.toInt = i.toInt + 3 := by rw [em6]; exact pm_addc _ _ 3 rfl (by omega) (by omega)
  refine Exists.intro _ (Exists.intro _ (And.intro (Or.inr hro) (And.intro (by omega) ?_)))
  have ha3_6 : a3 = xs m6.toInt.toNat := by rw [ha3, em6, ← m_a3]
  rw [← ha3_6]
  rw [cw_md D dj628]
  refine And.intro (Exists.intro _ (md_o)) (Exists.intro _ (Exists.intro _ (Exists.intro _ (Exists.intro _ (And.intro (F_X11_copy D mv mf hv hf a1 a2 a3 (by omega)) (And.intro (lw_bnd rfl (by omega) (by omega) rfl) (fun r9 A9 h9 => ?_)))))))
  obtain ⟨y648, mv648, mf648, rfl, rfl, hv648, hf648, hx648, by648⟩ := h9
  have fm9 := by648.2 M hR2
  rw [← hg] at fm9
  exact cont _ _ _ ⟨A00, K628, nn628, dn628, q628, w628, e628, v628, f628, mq, mv648, mf648, _, (cw_md D dj628).symm, (hX628.2.1 0 (by omega)), hI628, hS628, D, hv648, hf648, dj628, fun j hj => by rw [hy628, hx648]; exact hw j hj, by omega, by omega, fc9.1, fm9.1, (pm_eqI (by rw [fc9.2.2.1, fm9.2.2, hg])), (by rw [fc9.2.1, fm9.2.1, he0]), fc9.2.2.2.1, (nm_copy hM (by omega)), (fc9.2.2.2.2 hB)⟩ (by omega) (by omega)

set_option maxRecDepth 100000 in
set_option maxHeartbeats 2000000 in
theorem lx_b11 (hC : pm_Cl l g (lw_ro b L xs) 7 600000 7302250 lw_Rt bk_L_law J) {i : Int32} (hi : 0 ≤ i.toInt ∧ i.toInt + 6 ≤ L) (hL : L ≤ 3072) {E : Nat} (hE : E < 1000) {A : pm_H} {c s : Nat} (hA : LX g xo h E A) (hc : c + 4 ≤ 600000) (hs0 : s + 485 ≤ 7302250) (cont : ∀ (A' : pm_H) (c' s' : Nat), LX g xo h (E + 1) A' → c' ≤ c + 4 → s' ≤ s + 485 → J 2563 [some (.ref b), some (.ref xo), some (.ref h), some (.int i)] [] A' c' s') : J 655 [some (.ref b), some (.ref xo), some (.ref h), some (.int i)] [] A c s := by
  obtain ⟨A00, K, nn, dn, q, w, e, v, f, mq, mv, mf, M, rfl, rfl, hI, hS, D, hv, hf, dj, hw, hE1, hE2, hR1, hR2, hg, he0, hN, hM, hB⟩ := hA
  have hu9 := hI.2.1
  unfold cw_W at hu9
  have hro : lw_ro b L xs b = some (L, xs) := if_pos rfl
  refine hC.1 11 655 _ _ rfl _ _ _ _ _ ?_
  intro m1 em1
  have e1 : m1.toInt = i.toInt + 1 := by rw [em1]; exact pm_addc _ _ 1 rfl (by omega) (by omega)
  refine Exists.intro _ (Exists.intro _ (And.intro (Or.inr hro) (And.intro (by omega) ?_)))
  obtain ⟨a1, ha1⟩ : ∃ z9, z9 = xs m1.toInt.toNat := ⟨_, rfl⟩
  have m_a1 := em1
  rw [← ha1]
  intro m2 em2
  have e2 : m2.toInt = i.toInt + 2 := by rw [em2]; exact pm_addc _ _ 2 rfl (by omega) (by omega)
  refine Exists.intro _ (Exists.intro _ (And.intro (Or.inr hro) (And.intro (by omega) ?_)))
  obtain ⟨a2, ha2⟩ : ∃ z9, z9 = xs m2.toInt.toNat := ⟨_, rfl⟩
  have m_a2 := em2
  rw [← ha2]
  refine And.intro (Exists.intro _ (cw_o0 hI.1)) (Exists.intro _ (Exists.intro _ (Exists.intro _ (Exists.intro _ (And.intro (H_X10_merge hI hS a1 a2 (by omega)) (And.intro (lw_bnd rfl (by omega) (by omega) rfl) (fun r9 A9 h9 => ?_)))))))
  obtain ⟨K666, nn666, dn666, q666, w666, e666, v666, f666, rfl, hI666, hS666, hX666, hy666, y666, rfl, by666⟩ := h9
  have dj666 := lw_dj D dj hX666
  have fc9 := by666.2 M hR1 hN
  intro m3 em3
  have e3 : m3.toInt = i.toInt + 1 := by rw [em3]; exact pm_addc _ _ 1 rfl (by omega) (by omega)
  refine Exists.intro _ (Exists.intro _ (And.intro (Or.inr hro) (And.intro (by omega) ?_)))
  have ha1_3 : a1 = xs m3.toInt.toNat := by rw [ha1, em3, ← m_a1]
  rw [← ha1_3]
  intro m4 em4
  have e4 : m4.toInt = i.toInt + 2 := by rw [em4]; exact pm_addc _ _ 2 rfl (by omega) (by omega)
  refine Exists.intro _ (Exists.intro _ (And.intro (Or.inr hro) (And.intro (by omega) ?_)))
  have ha2_4 : a2 = xs m4.toInt.toNat := by rw [ha2, em4, ← m_a2]
  rw [← ha2_4]
  rw [cw_md D dj666]
  refine And.intro (Exists.intro _ (md_o)) (Exists.intro _ (Exists.intro _ (Exists.intro _ (Exists.intro _ (And.intro (F_X11_merge D mv mf hv hf a1 a2 (by omega)) (And.intro (lw_bnd rfl (by omega) (by omega) rfl) (fun r9 A9 h9 => ?_)))))))
  obtain ⟨y681, mv681, mf681, rfl, rfl, hv681, hf681, hx681, by681⟩ := h9
  have fm9 := by681.2 M hR2
  exact cont _ _ _ ⟨A00, K666, nn666, dn666, q666, w666, e666, v666, f666, mq, mv681, mf681, _, (cw_md D dj666).symm, (hX666.2.1 0 (by omega)), hI666, hS666, D, hv681, hf681, dj666, fun j hj => by rw [hy666, hx681]; exact hw j hj, by omega, by omega, fc9.1, fm9.1, (pm_eqI (by rw [fc9.2.2.1, fm9.2.2, hg])), (by rw [fc9.2.1, fm9.2.1, he0]), fc9.2.2.2.1, (nm_merge hM), (fc9.2.2.2.2 hB)⟩ (by omega) (by omega)

set_option maxRecDepth 100000 in
set_option maxHeartbeats 2000000 in
theorem lx_b12 (hC : pm_Cl l g (lw_ro b L xs) 7 600000 7302250 lw_Rt bk_L_law J) {i : Int32} (hi : 0 ≤ i.toInt ∧ i.toInt + 6 ≤ L) (hL : L ≤ 3072) {E : Nat} (hE : E < 1000) {A : pm_H} {c s : Nat} (hA : LX g xo h E A) (hc : c + 4 ≤ 600000) (hs0 : s + 485 ≤ 7302250) (cont : ∀ (A' : pm_H) (c' s' : Nat), LX g xo h (E + 1) A' → c' ≤ c + 4 → s' ≤ s + 485 → J 2563 [some (.ref b), some (.ref xo), some (.ref h), some (.int i)] [] A' c' s') : J 688 [some (.ref b), some (.ref xo), some (.ref h), some (.int i)] [] A c s := by
  obtain ⟨A00, K, nn, dn, q, w, e, v, f, mq, mv, mf, M, rfl, rfl, hI, hS, D, hv, hf, dj, hw, hE1, hE2, hR1, hR2, hg, he0, hN, hM, hB⟩ := hA
  have hu9 := hI.2.1
  unfold cw_W at hu9
  have hro : lw_ro b L xs b = some (L, xs) := if_pos rfl
  refine hC.1 12 688 _ _ rfl _ _ _ _ _ ?_
  intro m1 em1
  have e1 : m1.toInt = i.toInt + 1 := by rw [em1]; exact pm_addc _ _ 1 rfl (by omega) (by omega)
  refine Exists.intro _ (Exists.intro _ (And.intro (Or.inr hro) (And.intro (by omega) ?_)))
  obtain ⟨a1, ha1⟩ : ∃ z9, z9 = xs m1.toInt.toNat := ⟨_, rfl⟩
  have m_a1 := em1
  rw [← ha1]
  intro m2 em2
  have e2 : m2.toInt = i.toInt + 2 := by rw [em2]; exact pm_addc _ _ 2 rfl (by omega) (by omega)
  refine Exists.intro _ (Exists.intro _ (And.intro (Or.inr hro) (And.intro (by omega) ?_)))
  obtain ⟨a2, ha2⟩ : ∃ z9, z9 = xs m2.toInt.toNat := ⟨_, rfl⟩
  have m_a2 := em2
  rw [← ha2]
  refine And.intro (Exists.intro _ (cw_o0 hI.1)) (Exists.intro _ (Exists.intro _ (Exists.intro _ (Exists.intro _ (And.intro (H_X10_exchange hI hS a1 a2 (by omega)) (And.intro (lw_bnd rfl (by omega) (by omega) rfl) (fun r9 A9 h9 => ?_)))))))
  obtain ⟨K699, nn699, dn699, q699, w699, e699, v699, f699, rfl, hI699, hS699, hX699, hy699, y699, rfl, by699⟩ := h9
  have dj699 := lw_dj D dj hX699
  have fc9 := by699.2 M hR1 hN
  intro m3 em3
  have e3 : m3.toInt = i.toInt + 1 := by rw [em3]; exact pm_addc _ _ 1 rfl (by omega) (by omega)
  refine Exists.intro _ (Exists.intro _ (And.intro (Or.inr hro) (And.intro (by omega) ?_)))
  have ha1_3 : a1 = xs m3.toInt.toNat := by rw [ha1, em3, ← m_a1]
  rw [← ha1_3]
  intro m4 em4
  have e4 : m4.toInt = i.toInt + 2 := by rw [em4]; exact pm_addc _ _ 2 rfl (by omega) (by omega)
  refine Exists.intro _ (Exists.intro _ (And.intro (Or.inr hro) (And.intro (by omega) ?_)))
  have ha2_4 : a2 = xs m4.toInt.toNat := by rw [ha2, em4, ← m_a2]
  rw [← ha2_4]
  rw [cw_md D dj699]
  refine And.intro (Exists.intro _ (md_o)) (Exists.intro _ (Exists.intro _ (Exists.intro _ (Exists.intro _ (And.intro (F_X11_exchange D mv mf hv hf a1 a2 (by omega)) (And.intro (lw_bnd rfl (by omega) (by omega) rfl) (fun r9 A9 h9 => ?_)))))))
  obtain ⟨y714, mv714, mf714, rfl, rfl, hv714, hf714, hx714, by714⟩ := h9
  have fm9 := by714.2 M hR2
  exact cont _ _ _ ⟨A00, K699, nn699, dn699, q699, w699, e699, v699, f699, mq, mv714, mf714, _, (cw_md D dj699).symm, (hX699.2.1 0 (by omega)), hI699, hS699, D, hv714, hf714, dj699, fun j hj => by rw [hy699, hx714]; exact hw j hj, by omega, by omega, fc9.1, fm9.1, (pm_eqI (by rw [fc9.2.2.1, fm9.2.2, hg])), (by rw [fc9.2.1, fm9.2.1, he0]), fc9.2.2.2.1, (nm_exch hM), (fc9.2.2.2.2 hB)⟩ (by omega) (by omega)

set_option maxRecDepth 100000 in
set_option maxHeartbeats 2000000 in
theorem lx_b13 (hC : pm_Cl l g (lw_ro b L xs) 7 600000 7302250 lw_Rt bk_L_law J) {i : Int32} (hi : 0 ≤ i.toInt ∧ i.toInt + 6 ≤ L) (hL : L ≤ 3072) {E : Nat} (hE : E < 1000) {A : pm_H} {c s : Nat} (hA : LX g xo h E A) (hc : c + 4 ≤ 600000) (hs0 : s + 485 ≤ 7302250) (cont : ∀ (A' : pm_H) (c' s' : Nat), LX g xo h (E + 1) A' → c' ≤ c + 4 → s' ≤ s + 485 → J 2563 [some (.ref b), some (.ref xo), some (.ref h), some (.int i)] [] A' c' s') : J 721 [some (.ref b), some (.ref xo), some (.ref h), some (.int i)] [] A c s := by
  obtain ⟨A00, K, nn, dn, q, w, e, v, f, mq, mv, mf, M, rfl, rfl, hI, hS, D, hv, hf, dj, hw, hE1, hE2, hR1, hR2, hg, he0, hN, hM, hB⟩ := hA
  have hu9 := hI.2.1
  unfold cw_W at hu9
  have hro : lw_ro b L xs b = some (L, xs) := if_pos rfl
  refine hC.1 13 721 _ _ rfl _ _ _ _ _ ?_
  intro m1 em1
  have e1 : m1.toInt = i.toInt + 1 := by rw [em1]; exact pm_addc _ _ 1 rfl (by omega) (by omega)
  refine Exists.intro _ (Exists.intro _ (And.intro (Or.inr hro) (And.intro (by omega) ?_)))
  obtain ⟨a1, ha1⟩ : ∃ z9, z9 = xs m1.toInt.toNat := ⟨_, rfl⟩
  have m_a1 := em1
  rw [← ha1]
  intro m2 em2
  have e2 : m2.toInt = i.toInt + 2 := by rw [em2]; exact pm_addc _ _ 2 rfl (by omega) (by omega)
  refine Exists.intro _ (Exists.intro _ (And.intro (Or.inr hro) (And.intro (by omega) ?_)))
  obtain ⟨a2, ha2⟩ : ∃ z9, z9 = xs m2.toInt.toNat := ⟨_, rfl⟩
  have m_a2 := em2
  rw [← ha2]
  intro m3 em3
  have e3 : m3.toInt = i.toInt + 3 := by rw [em3]; exact pm_addc _ _ 3 rfl (by omega) (by omega)
  refine Exists.intro _ (Exists.intro _ (And.intro (Or.inr hro) (And.intro (by omega) ?_)))
  obtain ⟨a3, ha3⟩ : ∃ z9, z9 = xs m3.toInt.toNat := ⟨_, rfl⟩
  have m_a3 := em3
  rw [← ha3]
  refine And.intro (Exists.intro _ (cw_o0 hI.1)) (Exists.intro _ (Exists.intro _ (Exists.intro _ (Exists.intro _ (And.intro (H_X10_draw hI hS a1 a2 a3 (by omega)) (And.intro (lw_bnd rfl (by omega) (by omega) rfl) (fun r9 A9 h9 => ?_)))))))
  obtain ⟨K737, nn737, dn737, q737, w737, e737, v737, f737, rfl, hI737, hS737, hX737, hy737, y737, rfl, by737⟩ := h9
  have dj737 := lw_dj D dj hX737
  have fc9 := by737.2 M hR1 hN
  intro m4 em4
  have e4 : m4.toInt = i.toInt + 1 := by rw [em4]; exact pm_addc _ _ 1 rfl (by omega) (by omega)
  refine Exists.intro _ (Exists.intro _ (And.intro (Or.inr hro) (And.intro (by omega) ?_)))
  have ha1_4 : a1 = xs m4.toInt.toNat := by rw [ha1, em4, ← m_a1]
  rw [← ha1_4]
  intro m5 em5
  have e5 : m5.toInt = i.toInt + 2 := by rw [em5]; exact pm_addc _ _ 2 rfl (by omega) (by omega)
  refine Exists.intro _ (Exists.intro _ (And.intro (Or.inr hro) (And.intro (by omega) ?_)))
  have ha2_5 : a2 = xs m5.toInt.toNat := by rw [ha2, em5, ← m_a2]
  rw [← ha2_5]
  intro m6 em6
  have e6 : m6.toInt = i.toInt + 3 := by rw [em6]; exact pm_addc _ _ 3 rfl (by omega) (by omega)
  refine Exists.intro _ (Exists.intro _ (And.intro (Or.inr hro) (And.intro (by omega) ?_)))
  have ha3_6 : a3 = xs m6.toInt.toNat := by rw [ha3, em6, ← m_a3]
  rw [← ha3_6]
  rw [cw_md D dj737]
  refine And.intro (Exists.intro _ (md_o)) (Exists.intro _ (Exists.intro _ (Exists.intro _ (Exists.intro _ (And.intro (F_X11_draw D mv mf hv hf a1 a2 a3 (by omega)) (And.intro (lw_bnd rfl (by omega) (by omega) rfl) (fun r9 A9 h9 => ?_)))))))
  obtain ⟨y757, mv757, mf757, rfl, rfl, hv757, hf757, hx757, by757⟩ := h9
  have fm9 := by757.2 M hR2
  rw [← hg] at fm9
  exact cont _ _ _ ⟨A00, K737, nn737, dn737, q737, w737, e737, v737, f737, mq, mv757, mf757, _, (cw_md D dj737).symm, (hX737.2.1 0 (by omega)), hI737, hS737, D, hv757, hf757, dj737, fun j hj => by rw [hy737, hx757]; exact hw j hj, by omega, by omega, fc9.1, fm9.1, (pm_eqI (by rw [fc9.2.2.1, fm9.2.2, hg])), (by rw [fc9.2.1, fm9.2.1, he0]), fc9.2.2.2.1, (nm_draw hM (by omega)), (fc9.2.2.2.2 hB)⟩ (by omega) (by omega)

set_option maxRecDepth 100000 in
set_option maxHeartbeats 2000000 in
theorem lx_b14 (hC : pm_Cl l g (lw_ro b L xs) 7 600000 7302250 lw_Rt bk_L_law J) {i : Int32} (hi : 0 ≤ i.toInt ∧ i.toInt + 6 ≤ L) (hL : L ≤ 3072) {E : Nat} (hE : E < 1000) {A : pm_H} {c s : Nat} (hA : LX g xo h E A) (hc : c + 4 ≤ 600000) (hs0 : s + 485 ≤ 7302250) (cont : ∀ (A' : pm_H) (c' s' : Nat), LX g xo h (E + 1) A' → c' ≤ c + 4 → s' ≤ s + 485 → J 2563 [some (.ref b), some (.ref xo), some (.ref h), some (.int i)] [] A' c' s') : J 764 [some (.ref b), some (.ref xo), some (.ref h), some (.int i)] [] A c s := by
  obtain ⟨A00, K, nn, dn, q, w, e, v, f, mq, mv, mf, M, rfl, rfl, hI, hS, D, hv, hf, dj, hw, hE1, hE2, hR1, hR2, hg, he0, hN, hM, hB⟩ := hA
  have hu9 := hI.2.1
  unfold cw_W at hu9
  have hro : lw_ro b L xs b = some (L, xs) := if_pos rfl
  refine hC.1 14 764 _ _ rfl _ _ _ _ _ ?_
  intro m1 em1
  have e1 : m1.toInt = i.toInt + 1 := by rw [em1]; exact pm_addc _ _ 1 rfl (by omega) (by omega)
  refine Exists.intro _ (Exists.intro _ (And.intro (Or.inr hro) (And.intro (by omega) ?_)))
  obtain ⟨a1, ha1⟩ : ∃ z9, z9 = xs m1.toInt.toNat := ⟨_, rfl⟩
  have m_a1 := em1
  rw [← ha1]
  intro m2 em2
  have e2 : m2.toInt = i.toInt + 2 := by rw [em2]; exact pm_addc _ _ 2 rfl (by omega) (by omega)
  refine Exists.intro _ (Exists.intro _ (And.intro (Or.inr hro) (And.intro (by omega) ?_)))
  obtain ⟨a2, ha2⟩ : ∃ z9, z9 = xs m2.toInt.toNat := ⟨_, rfl⟩
  have m_a2 := em2
  rw [← ha2]
  refine And.intro (Exists.intro _ (cw_o0 hI.1)) (Exists.intro _ (Exists.intro _ (Exists.intro _ (Exists.intro _ (And.intro (c_X10_weigh hI hS a1 a2 ) (And.intro (lw_bnd rfl (by omega) (by omega) rfl) (fun r9 A9 h9 => ?_)))))))
  obtain ⟨e775, y775, rfl, rfl, hI775, h40_775, hc775⟩ := lx_wc hI h9
  intro m3 em3
  have e3 : m3.toInt = i.toInt + 1 := by rw [em3]; exact pm_addc _ _ 1 rfl (by omega) (by omega)
  refine Exists.intro _ (Exists.intro _ (And.intro (Or.inr hro) (And.intro (by omega) ?_)))
  have ha1_3 : a1 = xs m3.toInt.toNat := by rw [ha1, em3, ← m_a1]
  rw [← ha1_3]
  intro m4 em4
  have e4 : m4.toInt = i.toInt + 2 := by rw [em4]; exact pm_addc _ _ 2 rfl (by omega) (by omega)
  refine Exists.intro _ (Exists.intro _ (And.intro (Or.inr hro) (And.intro (by omega) ?_)))
  have ha2_4 : a2 = xs m4.toInt.toNat := by rw [ha2, em4, ← m_a2]
  rw [← ha2_4]
  rw [cw_md D dj]
  refine And.intro (Exists.intro _ (md_o)) (Exists.intro _ (Exists.intro _ (Exists.intro _ (Exists.intro _ (And.intro (c_X11_weigh D mv mf hv hf a1 a2 ) (And.intro (lw_bnd rfl (by omega) (by omega) rfl) (fun r9 A9 h9 => ?_)))))))
  obtain ⟨mf790, y790, rfl, rfl, hf790, h01_790, hm790⟩ := lx_wm D hf h9
  exact cont _ _ _ ⟨A00, K, nn, dn, q, w, e775, v, f, mq, mv, mf790, M, (cw_md D dj).symm, rfl, hI775, hS, D, hv, hf790, dj, lx_ww hw hc775 hm790, by omega, by omega, (rp_fr hR1 rfl (h40_775 (nn + 1) (by omega)) (h40_775 (nn + 2) (by omega))), (rp_fr hR2 rfl h01_790.1 h01_790.2), hg, (by omega), hN, hM, (bd_fr hB rfl (h40_775 (nn + 1) (by omega)) (h40_775 (nn + 3) (by omega)))⟩ (by omega) (by omega)
end
