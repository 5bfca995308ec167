section
section
variable {l : Launch} {g : pm_G} {b L : Nat} {xs : Nat → Int32} {J : pm_J} {xo h : Nat}
set_option maxRecDepth 100000 in
set_option maxHeartbeats 2000000 in
theorem lx_b54 (hC : pm_Cl l g (lw_ro b L xs) 7 600000 7302250 lw_Rt bk_L_law J) {i : Int32} (hi : 0 ≤ i.toInt ∧ i.toInt + 6 ≤ L) (hL : L ≤ 3072) {E : Nat} (hE : E < 1000) {A : pm_H} {c s : Nat} (hA : LX g xo h E A) (hc : c + 4 ≤ 600000) (hs0 : s + 485 ≤ 7302250) (cont : ∀ (A' : pm_H) (c' s' : Nat), LX g xo h (E + 1) A' → c' ≤ c + 4 → s' ≤ s + 485 → J 2563 [some (.ref b), some (.ref xo), some (.ref h), some (.int i)] [] A' c' s') : J 2174 [some (.ref b), some (.ref xo), some (.ref h), some (.int i)] [] A c s := by
  obtain ⟨A00, K, nn, dn, q, w, e, v, f, mq, mv, mf, M, rfl, rfl, hI, hS, D, hv, hf, dj, hw, hE1, hE2, hR1, hR2, hg, he0, hN, hM, hB, hH, hQ, hU, hT, h5⟩ := hA
  have hu9 := hI.2.1
  unfold cw_W at hu9
  have hro : lw_ro b L xs b = some (L, xs) := if_pos rfl
  refine hC.1 54 2174 _ _ rfl _ _ _ _ _ ?_
  refine pq_aload_n1 (pq_aload_n0 (pq_iload_n3 (pq_iconst (pq_iadd ?_))))
  intro m1 em1
  have e1 : m1.toInt = i.toInt + 1 := lx_ad1 hi hL em1
  refine pq_iaload ?_
  refine Exists.intro _ (Exists.intro _ (And.intro (Or.inr hro) (And.intro (lx_bn1 hi e1) ?_)))
  obtain ⟨a1, ha1⟩ : ∃ z9, z9 = xs m1.toInt.toNat := ⟨_, rfl⟩
  have m_a1 := em1
  rw [← ha1]
  refine pq_iv1_10 ?_
  refine And.intro (Exists.intro _ (cw_o0 hI.1)) (Exists.intro _ (Exists.intro _ (Exists.intro _ (Exists.intro _ (And.intro (c_X10_twin hI hS a1 ) (And.intro (lw_bnd rfl (lx_c1 hc (by decide)) (lx_c1 hs0 (by decide)) rfl) (fun r9 A9 h9 => ?_)))))))
  obtain ⟨v2180, f2180, rfl, hS2180, y2180, rfl, by2180⟩ := h9
  refine pq_id1 (pq_pop (pq_aload_n2 (pq_aload_n0 (pq_iload_n3 (pq_iconst (pq_iadd ?_))))))
  intro m2 em2
  have e2 : m2.toInt = i.toInt + 1 := lx_ad1 hi hL em2
  refine pq_iaload ?_
  refine Exists.intro _ (Exists.intro _ (And.intro (Or.inr hro) (And.intro (lx_bn1 hi e2) ?_)))
  have ha1_2 : a1 = xs m2.toInt.toNat := by rw [ha1, em2, ← m_a1]
  rw [← ha1_2]
  refine pq_iv1_11 ?_
  rw [cw_md D dj]
  refine And.intro (Exists.intro _ (md_o)) (Exists.intro _ (Exists.intro _ (Exists.intro _ (Exists.intro _ (And.intro (V_X11_twin D mv mf hv hf a1 ) (And.intro (lw_bnd rfl (lx_c2 hc (by decide)) (lx_c2 hs0 (by decide)) rfl) (fun r9 A9 h9 => ?_)))))))
  obtain ⟨y2190, mv2190, mf2190, rfl, rfl, hv2190, hf2190, hx2190, hg2190_0, hg2190_1, hg2190_12, hg2190_13, hg2190_14, hg2190_15, hg2190_7, hg2190_8, hg2190_9, hg2190_10, hg2190_11, by2190⟩ := h9
  refine pq_id1 (pq_pop (pq_goto ?_))
  exact cont _ _ _ ⟨A00, K, nn, dn, q, w, e, v2180, f2180, mq, mv2190, mf2190, M, (cw_md D dj).symm, rfl, hI, hS2180, D, hv2190, hf2190, dj, fun j hj => by rw [hx2190]; exact hw j hj, by omega, by omega, hR1, (rp_fr hR2 (by omega) hg2190_0 hg2190_1), (pm_eqI (by have q9 := congrArg Int32.toInt hg; omega)), (by omega), hN, hM, hB, (HX_m hH hg2190_12 hg2190_13 hg2190_14), (QX_m hQ (by omega) hg2190_7 hg2190_8 hg2190_9 hg2190_10 hg2190_11), hU, (HT_m hT hg2190_15), (pm_eqI (by have q9 := congrArg Int32.toInt h5; omega))⟩ (by omega) (by omega)

set_option maxRecDepth 100000 in
set_option maxHeartbeats 2000000 in
theorem lx_b55 (hC : pm_Cl l g (lw_ro b L xs) 7 600000 7302250 lw_Rt bk_L_law J) {i : Int32} (hi : 0 ≤ i.toInt ∧ i.toInt + 6 ≤ L) (hL : L ≤ 3072) {E : Nat} (hE : E < 1000) {A : pm_H} {c s : Nat} (hA : LX g xo h E A) (hc : c + 4 ≤ 600000) (hs0 : s + 485 ≤ 7302250) (cont : ∀ (A' : pm_H) (c' s' : Nat), LX g xo h (E + 1) A' → c' ≤ c + 4 → s' ≤ s + 485 → J 2563 [some (.ref b), some (.ref xo), some (.ref h), some (.int i)] [] A' c' s') : J 2197 [some (.ref b), some (.ref xo), some (.ref h), some (.int i)] [] A c s := by
  obtain ⟨A00, K, nn, dn, q, w, e, v, f, mq, mv, mf, M, rfl, rfl, hI, hS, D, hv, hf, dj, hw, hE1, hE2, hR1, hR2, hg, he0, hN, hM, hB, hH, hQ, hU, hT, h5⟩ := hA
  have hu9 := hI.2.1
  unfold cw_W at hu9
  have hro : lw_ro b L xs b = some (L, xs) := if_pos rfl
  refine hC.1 55 2197 _ _ rfl _ _ _ _ _ ?_
  refine pq_aload_n1 (pq_aload_n0 (pq_iload_n3 (pq_iconst (pq_iadd ?_))))
  intro m1 em1
  have e1 : m1.toInt = i.toInt + 1 := lx_ad1 hi hL em1
  refine pq_iaload ?_
  refine Exists.intro _ (Exists.intro _ (And.intro (Or.inr hro) (And.intro (lx_bn1 hi e1) ?_)))
  obtain ⟨a1, ha1⟩ : ∃ z9, z9 = xs m1.toInt.toNat := ⟨_, rfl⟩
  have m_a1 := em1
  rw [← ha1]
  refine pq_aload_n0 (pq_iload_n3 (pq_iconst (pq_iadd ?_)))
  intro m2 em2
  have e2 : m2.toInt = i.toInt + 2 := lx_ad2 hi hL em2
  refine pq_iaload ?_
  refine Exists.intro _ (Exists.intro _ (And.intro (Or.inr hro) (And.intro (lx_bn2 hi e2) ?_)))
  obtain ⟨a2, ha2⟩ : ∃ z9, z9 = xs m2.toInt.toNat := ⟨_, rfl⟩
  have m_a2 := em2
  rw [← ha2]
  refine pq_iv2_10 ?_
  refine And.intro (Exists.intro _ (cw_o0 hI.1)) (Exists.intro _ (Exists.intro _ (Exists.intro _ (Exists.intro _ (And.intro (c_X10_parts hI hS a1 a2 ) (And.intro (lw_bnd rfl (lx_c1 hc (by decide)) (lx_c1 hs0 (by decide)) rfl) (fun r9 A9 h9 => ?_)))))))
  obtain ⟨v2208, f2208, rfl, hS2208, y2208, rfl, by2208⟩ := h9
  refine pq_id1 (pq_pop (pq_aload_n2 (pq_aload_n0 (pq_iload_n3 (pq_iconst (pq_iadd ?_))))))
  intro m3 em3
  have e3 : m3.toInt = i.toInt + 1 := lx_ad1 hi hL em3
  refine pq_iaload ?_
  refine Exists.intro _ (Exists.intro _ (And.intro (Or.inr hro) (And.intro (lx_bn1 hi e3) ?_)))
  have ha1_3 : a1 = xs m3.toInt.toNat := by rw [ha1, em3, ← m_a1]
  rw [← ha1_3]
  refine pq_aload_n0 (pq_iload_n3 (pq_iconst (pq_iadd ?_)))
  intro m4 em4
  have e4 : m4.toInt = i.toInt + 2 := lx_ad2 hi hL em4
  refine pq_iaload ?_
  refine Exists.intro _ (Exists.intro _ (And.intro (Or.inr hro) (And.intro (lx_bn2 hi e4) ?_)))
  have ha2_4 : a2 = xs m4.toInt.toNat := by rw [ha2, em4, ← m_a2]
  rw [← ha2_4]
  refine pq_iv2_11 ?_
  rw [cw_md D dj]
  refine And.intro (Exists.intro _ (md_o)) (Exists.intro _ (Exists.intro _ (Exists.intro _ (Exists.intro _ (And.intro (c_X11_parts D mv mf hv hf a1 a2 ) (And.intro (lw_bnd rfl (lx_c2 hc (by decide)) (lx_c2 hs0 (by decide)) rfl) (fun r9 A9 h9 => ?_)))))))
  obtain ⟨y2223, rfl, rfl, by2223⟩ := h9
  refine pq_id1 (pq_pop (pq_goto ?_))
  clear hu9
  exact cont _ _ _ ⟨A00, K, nn, dn, q, w, e, v2208, f2208, mq, mv, mf, M, (cw_md D dj).symm, rfl, hI, hS2208, D, hv, hf, dj, fun j hj => by exact hw j hj, by omega, by omega, hR1, hR2, hg, (by omega), hN, hM, hB, hH, hQ, hU, hT, h5⟩ (by omega) (by omega)

set_option maxRecDepth 100000 in
set_option maxHeartbeats 2000000 in
theorem lx_b56 (hC : pm_Cl l g (lw_ro b L xs) 7 600000 7302250 lw_Rt bk_L_law J) {i : Int32} (hi : 0 ≤ i.toInt ∧ i.toInt + 6 ≤ L) (hL : L ≤ 3072) {E : Nat} (hE : E < 1000) {A : pm_H} {c s : Nat} (hA : LX g xo h E A) (hc : c + 4 ≤ 600000) (hs0 : s + 485 ≤ 7302250) (cont : ∀ (A' : pm_H) (c' s' : Nat), LX g xo h (E + 1) A' → c' ≤ c + 4 → s' ≤ s + 485 → J 2563 [some (.ref b), some (.ref xo), some (.ref h), some (.int i)] [] A' c' s') : J 2230 [some (.ref b), some (.ref xo), some (.ref h), some (.int i)] [] A c s := by
  obtain ⟨A00, K, nn, dn, q, w, e, v, f, mq, mv, mf, M, rfl, rfl, hI, hS, D, hv, hf, dj, hw, hE1, hE2, hR1, hR2, hg, he0, hN, hM, hB, hH, hQ, hU, hT, h5⟩ := hA
  have hu9 := hI.2.1
  unfold cw_W at hu9
  have hro : lw_ro b L xs b = some (L, xs) := if_pos rfl
  refine hC.1 56 2230 _ _ rfl _ _ _ _ _ ?_
  refine pq_aload_n1 (pq_aload_n0 (pq_iload_n3 (pq_iconst (pq_iadd ?_))))
  intro m1 em1
  have e1 : m1.toInt = i.toInt + 1 := lx_ad1 hi hL em1
  refine pq_iaload ?_
  refine Exists.intro _ (Exists.intro _ (And.intro (Or.inr hro) (And.intro (lx_bn1 hi e1) ?_)))
  obtain ⟨a1, ha1⟩ : ∃ z9, z9 = xs m1.toInt.toNat := ⟨_, rfl⟩
  have m_a1 := em1
  rw [← ha1]
  refine pq_aload_n0 (pq_iload_n3 (pq_iconst (pq_iadd ?_)))
  intro m2 em2
  have e2 : m2.toInt = i.toInt + 2 := lx_ad2 hi hL em2
  refine pq_iaload ?_
  refine Exists.intro _ (Exists.intro _ (And.intro (Or.inr hro) (And.intro (lx_bn2 hi e2) ?_)))
  obtain ⟨a2, ha2⟩ : ∃ z9, z9 = xs m2.toInt.toNat := ⟨_, rfl⟩
  have m_a2 := em2
  rw [← ha2]
  refine pq_iv2_10 ?_
  refine And.intro (Exists.intro _ (cw_o0 hI.1)) (Exists.intro _ (Exists.intro _ (Exists.intro _ (Exists.intro _ (And.intro (c_X10_best hI hS a1 a2 ) (And.intro (lw_bnd rfl (lx_c1 hc (by decide)) (lx_c1 hs0 (by decide)) rfl) (fun r9 A9 h9 => ?_)))))))
  obtain ⟨v2241, f2241, rfl, hS2241, y2241, rfl, by2241⟩ := h9
  refine pq_id1 (pq_pop (pq_aload_n2 (pq_aload_n0 (pq_iload_n3 (pq_iconst (pq_iadd ?_))))))
  intro m3 em3
  have e3 : m3.toInt = i.toInt + 1 := lx_ad1 hi hL em3
  refine pq_iaload ?_
  refine Exists.intro _ (Exists.intro _ (And.intro (Or.inr hro) (And.intro (lx_bn1 hi e3) ?_)))
  have ha1_3 : a1 = xs m3.toInt.toNat := by rw [ha1, em3, ← m_a1]
  rw [← ha1_3]
  refine pq_aload_n0 (pq_iload_n3 (pq_iconst (pq_iadd ?_)))
  intro m4 em4
  have e4 : m4.toInt = i.toInt + 2 := lx_ad2 hi hL em4
  refine pq_iaload ?_
  refine Exists.intro _ (Exists.intro _ (And.intro (Or.inr hro) (And.intro (lx_bn2 hi e4) ?_)))
  have ha2_4 : a2 = xs m4.toInt.toNat := by rw [ha2, em4, ← m_a2]
  rw [← ha2_4]
  refine pq_iv2_11 ?_
  rw [cw_md D dj]
  refine And.intro (Exists.intro _ (md_o)) (Exists.intro _ (Exists.intro _ (Exists.intro _ (Exists.intro _ (And.intro (V_X11_best D mv mf hv hf a1 a2 ) (And.intro (lw_bnd rfl (lx_c2 hc (by decide)) (lx_c2 hs0 (by decide)) rfl) (fun r9 A9 h9 => ?_)))))))
  obtain ⟨y2256, mv2256, mf2256, rfl, rfl, hv2256, hf2256, hx2256, hg2256_0, hg2256_1, hg2256_12, hg2256_13, hg2256_14, hg2256_15, hg2256_7, hg2256_8, hg2256_9, hg2256_10, hg2256_11, by2256⟩ := h9
  refine pq_id1 (pq_pop (pq_goto ?_))
  exact cont _ _ _ ⟨A00, K, nn, dn, q, w, e, v2241, f2241, mq, mv2256, mf2256, M, (cw_md D dj).symm, rfl, hI, hS2241, D, hv2256, hf2256, dj, fun j hj => by rw [hx2256]; exact hw j hj, by omega, by omega, hR1, (rp_fr hR2 (by omega) hg2256_0 hg2256_1), (pm_eqI (by have q9 := congrArg Int32.toInt hg; omega)), (by omega), hN, hM, hB, (HX_m hH hg2256_12 hg2256_13 hg2256_14), (QX_m hQ (by omega) hg2256_7 hg2256_8 hg2256_9 hg2256_10 hg2256_11), hU, (HT_m hT hg2256_15), (pm_eqI (by have q9 := congrArg Int32.toInt h5; omega))⟩ (by omega) (by omega)

set_option maxRecDepth 100000 in
set_option maxHeartbeats 2000000 in
theorem lx_b57 (hC : pm_Cl l g (lw_ro b L xs) 7 600000 7302250 lw_Rt bk_L_law J) {i : Int32} (hi : 0 ≤ i.toInt ∧ i.toInt + 6 ≤ L) (hL : L ≤ 3072) {E : Nat} (hE : E < 1000) {A : pm_H} {c s : Nat} (hA : LX g xo h E A) (hc : c + 4 ≤ 600000) (hs0 : s + 485 ≤ 7302250) (cont : ∀ (A' : pm_H) (c' s' : Nat), LX g xo h (E + 1) A' → c' ≤ c + 4 → s' ≤ s + 485 → J 2563 [some (.ref b), some (.ref xo), some (.ref h), some (.int i)] [] A' c' s') : J 2263 [some (.ref b), some (.ref xo), some (.ref h), some (.int i)] [] A c s := by
  obtain ⟨A00, K, nn, dn, q, w, e, v, f, mq, mv, mf, M, rfl, rfl, hI, hS, D, hv, hf, dj, hw, hE1, hE2, hR1, hR2, hg, he0, hN, hM, hB, hH, hQ, hU, hT, h5⟩ := hA
  have hu9 := hI.2.1
  unfold cw_W at hu9
  have hro : lw_ro b L xs b = some (L, xs) := if_pos rfl
  refine hC.1 57 2263 _ _ rfl _ _ _ _ _ ?_
  refine pq_aload_n1 (pq_aload_n0 (pq_iload_n3 (pq_iconst (pq_iadd ?_))))
  intro m1 em1
  have e1 : m1.toInt = i.toInt + 1 := lx_ad1 hi hL em1
  refine pq_iaload ?_
  refine Exists.intro _ (Exists.intro _ (And.intro (Or.inr hro) (And.intro (lx_bn1 hi e1) ?_)))
  obtain ⟨a1, ha1⟩ : ∃ z9, z9 = xs m1.toInt.toNat := ⟨_, rfl⟩
  have m_a1 := em1
  rw [← ha1]
  refine pq_aload_n0 (pq_iload_n3 (pq_iconst (pq_iadd ?_)))
  intro m2 em2
  have e2 : m2.toInt = i.toInt + 2 := lx_ad2 hi hL em2
  refine pq_iaload ?_
  refine Exists.intro _ (Exists.intro _ (And.intro (Or.inr hro) (And.intro (lx_bn2 hi e2) ?_)))
  obtain ⟨a2, ha2⟩ : ∃ z9, z9 = xs m2.toInt.toNat := ⟨_, rfl⟩
  have m_a2 := em2
  rw [← ha2]
  refine pq_aload_n0 (pq_iload_n3 (pq_iconst (pq_iadd ?_)))
  intro m3 em3
  have e3 : m3.toInt = i.toInt + 3 := lx_ad3 hi hL em3
  refine pq_iaload ?_
  refine Exists.intro _ (Exists.intro _ (And.intro (Or.inr hro) (And.intro (lx_bn3 hi e3) ?_)))
  obtain ⟨a3, ha3⟩ : ∃ z9, z9 = xs m3.toInt.toNat := ⟨_, rfl⟩
  have m_a3 := em3
  rw [← ha3]
  refine pq_iv3_10 ?_
  refine And.intro (Exists.intro _ (cw_o0 hI.1)) (Exists.intro _ (Exists.intro _ (Exists.intro _ (Exists.intro _ (And.intro (c_X10_was hI hS a1 a2 a3 ) (And.intro (lw_bnd rfl (lx_c1 hc (by decide)) (lx_c1 hs0 (by decide)) rfl) (fun r9 A9 h9 => ?_)))))))
  obtain ⟨y2279, rfl, rfl, by2279⟩ := h9
  refine pq_id1 (pq_pop (pq_aload_n2 (pq_aload_n0 (pq_iload_n3 (pq_iconst (pq_iadd ?_))))))
  intro m4 em4
  have e4 : m4.toInt = i.toInt + 1 := lx_ad1 hi hL em4
  refine pq_iaload ?_
  refine Exists.intro _ (Exists.intro _ (And.intro (Or.inr hro) (And.intro (lx_bn1 hi e4) ?_)))
  have ha1_4 : a1 = xs m4.toInt.toNat := by rw [ha1, em4, ← m_a1]
  rw [← ha1_4]
  refine pq_aload_n0 (pq_iload_n3 (pq_iconst (pq_iadd ?_)))
  intro m5 em5
  have e5 : m5.toInt = i.toInt + 2 := lx_ad2 hi hL em5
  refine pq_iaload ?_
  refine Exists.intro _ (Exists.intro _ (And.intro (Or.inr hro) (And.intro (lx_bn2 hi e5) ?_)))
  have ha2_5 : a2 = xs m5.toInt.toNat := by rw [ha2, em5, ← m_a2]
  rw [← ha2_5]
  refine pq_aload_n0 (pq_iload_n3 (pq_iconst (pq_iadd ?_)))
  intro m6 em6
  have e6 : m6.toInt = i.toInt + 3 := lx_ad3 hi hL em6
  refine pq_iaload ?_
  refine Exists.intro _ (Exists.intro _ (And.intro (Or.inr hro) (And.intro (lx_bn3 hi e6) ?_)))
  have ha3_6 : a3 = xs m6.toInt.toNat := by rw [ha3, em6, ← m_a3]
  rw [← ha3_6]
  refine pq_iv3_11 ?_
  rw [cw_md D dj]
  refine And.intro (Exists.intro _ (md_o)) (Exists.intro _ (Exists.intro _ (Exists.intro _ (Exists.intro _ (And.intro (c_X11_was D mv mf hv hf a1 a2 a3 ) (And.intro (lw_bnd rfl (lx_c2 hc (by decide)) (lx_c2 hs0 (by decide)) rfl) (fun r9 A9 h9 => ?_)))))))
  obtain ⟨y2299, rfl, rfl, by2299⟩ := h9
  refine pq_id1 (pq_pop (pq_goto ?_))
  clear hu9
  exact cont _ _ _ ⟨A00, K, nn, dn, q, w, e, v, f, mq, mv, mf, M, (cw_md D dj).symm, rfl, hI, hS, D, hv, hf, dj, fun j hj => by exact hw j hj, by omega, by omega, hR1, hR2, hg, (by omega), hN, hM, hB, hH, hQ, hU, hT, h5⟩ (by omega) (by omega)

set_option maxRecDepth 100000 in
set_option maxHeartbeats 2000000 in
theorem lx_b58 (hC : pm_Cl l g (lw_ro b L xs) 7 600000 7302250 lw_Rt bk_L_law J) {i : Int32} (hi : 0 ≤ i.toInt ∧ i.toInt + 6 ≤ L) (hL : L ≤ 3072) {E : Nat} (hE : E < 1000) {A : pm_H} {c s : Nat} (hA : LX g xo h E A) (hc : c + 4 ≤ 600000) (hs0 : s + 485 ≤ 7302250) (cont : ∀ (A' : pm_H) (c' s' : Nat), LX g xo h (E + 1) A' → c' ≤ c + 4 → s' ≤ s + 485 → J 2563 [some (.ref b), some (.ref xo), some (.ref h), some (.int i)] [] A' c' s') : J 2306 [some (.ref b), some (.ref xo), some (.ref h), some (.int i)] [] A c s := by
  obtain ⟨A00, K, nn, dn, q, w, e, v, f, mq, mv, mf, M, rfl, rfl, hI, hS, D, hv, hf, dj, hw, hE1, hE2, hR1, hR2, hg, he0, hN, hM, hB, hH, hQ, hU, hT, h5⟩ := hA
  have hu9 := hI.2.1
  unfold cw_W at hu9
  have hro : lw_ro b L xs b = some (L, xs) := if_pos rfl
  refine hC.1 58 2306 _ _ rfl _ _ _ _ _ ?_
  refine pq_aload_n1 (pq_aload_n0 (pq_iload_n3 (pq_iconst (pq_iadd ?_))))
  intro m1 em1
  have e1 : m1.toInt = i.toInt + 1 := lx_ad1 hi hL em1
  refine pq_iaload ?_
  refine Exists.intro _ (Exists.intro _ (And.intro (Or.inr hro) (And.intro (lx_bn1 hi e1) ?_)))
  obtain ⟨a1, ha1⟩ : ∃ z9, z9 = xs m1.toInt.toNat := ⟨_, rfl⟩
  have m_a1 := em1
  rw [← ha1]
  refine pq_aload_n0 (pq_iload_n3 (pq_iconst (pq_iadd ?_)))
  intro m2 em2
  have e2 : m2.toInt = i.toInt + 2 := lx_ad2 hi hL em2
  refine pq_iaload ?_
  refine Exists.intro _ (Exists.intro _ (And.intro (Or.inr hro) (And.intro (lx_bn2 hi e2) ?_)))
  obtain ⟨a2, ha2⟩ : ∃ z9, z9 = xs m2.toInt.toNat := ⟨_, rfl⟩
  have m_a2 := em2
  rw [← ha2]
  refine pq_aload_n0 (pq_iload_n3 (pq_iconst (pq_iadd ?_)))
  intro m3 em3
  have e3 : m3.toInt = i.toInt + 3 := lx_ad3 hi hL em3
  refine pq_iaload ?_
  refine Exists.intro _ (Exists.intro _ (And.intro (Or.inr hro) (And.intro (lx_bn3 hi e3) ?_)))
  obtain ⟨a3, ha3⟩ : ∃ z9, z9 = xs m3.toInt.toNat := ⟨_, rfl⟩
  have m_a3 := em3
  rw [← ha3]
  refine pq_iv3_10 ?_
  refine And.intro (Exists.intro _ (cw_o0 hI.1)) (Exists.intro _ (Exists.intro _ (Exists.intro _ (Exists.intro _ (And.intro (c_X10_counted hI hS a1 a2 a3 ) (And.intro (lw_bnd rfl (lx_c1 hc (by decide)) (lx_c1 hs0 (by decide)) rfl) (fun r9 A9 h9 => ?_)))))))
  obtain ⟨v2322, f2322, rfl, hS2322, y2322, rfl, by2322⟩ := h9
  refine pq_id1 (pq_pop (pq_aload_n2 (pq_aload_n0 (pq_iload_n3 (pq_iconst (pq_iadd ?_))))))
  intro m4 em4
  have e4 : m4.toInt = i.toInt + 1 := lx_ad1 hi hL em4
  refine pq_iaload ?_
  refine Exists.intro _ (Exists.intro _ (And.intro (Or.inr hro) (And.intro (lx_bn1 hi e4) ?_)))
  have ha1_4 : a1 = xs m4.toInt.toNat := by rw [ha1, em4, ← m_a1]
  rw [← ha1_4]
  refine pq_aload_n0 (pq_iload_n3 (pq_iconst (pq_iadd ?_)))
  intro m5 em5
  have e5 : m5.toInt = i.toInt + 2 := lx_ad2 hi hL em5
  refine pq_iaload ?_
  refine Exists.intro _ (Exists.intro _ (And.intro (Or.inr hro) (And.intro (lx_bn2 hi e5) ?_)))
  have ha2_5 : a2 = xs m5.toInt.toNat := by rw [ha2, em5, ← m_a2]
  rw [← ha2_5]
  refine pq_aload_n0 (pq_iload_n3 (pq_iconst (pq_iadd ?_)))
  intro m6 em6
  have e6 : m6.toInt = i.toInt + 3 := lx_ad3 hi hL em6
  refine pq_iaload ?_
  refine Exists.intro _ (Exists.intro _ (And.intro (Or.inr hro) (And.intro (lx_bn3 hi e6) ?_)))
  have ha3_6 : a3 = xs m6.toInt.toNat := by rw [ha3, em6, ← m_a3]
  rw [← ha3_6]
  refine pq_iv3_11 ?_
  rw [cw_md D dj]
  refine And.intro (Exists.intro _ (md_o)) (Exists.intro _ (Exists.intro _ (Exists.intro _ (Exists.intro _ (And.intro (c_X11_counted D mv mf hv hf a1 a2 a3 ) (And.intro (lw_bnd rfl (lx_c2 hc (by decide)) (lx_c2 hs0 (by decide)) rfl) (fun r9 A9 h9 => ?_)))))))
  obtain ⟨y2342, rfl, rfl, by2342⟩ := h9
  refine pq_id1 (pq_pop (pq_goto ?_))
  clear hu9
  exact cont _ _ _ ⟨A00, K, nn, dn, q, w, e, v2322, f2322, mq, mv, mf, M, (cw_md D dj).symm, rfl, hI, hS2322, D, hv, hf, dj, fun j hj => by exact hw j hj, by omega, by omega, hR1, hR2, hg, (by omega), hN, hM, hB, hH, hQ, hU, hT, h5⟩ (by omega) (by omega)

set_option maxRecDepth 100000 in
set_option maxHeartbeats 2000000 in
theorem lx_b59 (hC : pm_Cl l g (lw_ro b L xs) 7 600000 7302250 lw_Rt bk_L_law J) {i : Int32} (hi : 0 ≤ i.toInt ∧ i.toInt + 6 ≤ L) (hL : L ≤ 3072) {E : Nat} (hE : E < 1000) {A : pm_H} {c s : Nat} (hA : LX g xo h E A) (hc : c + 4 ≤ 600000) (hs0 : s + 485 ≤ 7302250) (cont : ∀ (A' : pm_H) (c' s' : Nat), LX g xo h (E + 1) A' → c' ≤ c + 4 → s' ≤ s + 485 → J 2563 [some (.ref b), some (.ref xo), some (.ref h), some (.int i)] [] A' c' s') : J 2349 [some (.ref b), some (.ref xo), some (.ref h), some (.int i)] [] A c s := by
  obtain ⟨A00, K, nn, dn, q, w, e, v, f, mq, mv, mf, M, rfl, rfl, hI, hS, D, hv, hf, dj, hw, hE1, hE2, hR1, hR2, hg, he0, hN, hM, hB, hH, hQ, hU, hT, h5⟩ := hA
  have hu9 := hI.2.1
  unfold cw_W at hu9
  have hro : lw_ro b L xs b = some (L, xs) := if_pos rfl
  refine hC.1 59 2349 _ _ rfl _ _ _ _ _ ?_
  refine pq_aload_n1 (pq_aload_n0 (pq_iload_n3 (pq_iconst (pq_iadd ?_))))
  intro m1 em1
  have e1 : m1.toInt = i.toInt + 1 := lx_ad1 hi hL em1
  refine pq_iaload ?_
  refine Exists.intro _ (Exists.intro _ (And.intro (Or.inr hro) (And.intro (lx_bn1 hi e1) ?_)))
  obtain ⟨a1, ha1⟩ : ∃ z9, z9 = xs m1.toInt.toNat := ⟨_, rfl⟩
  have m_a1 := em1
  rw [← ha1]
  refine pq_iv1_10 ?_
  refine And.intro (Exists.intro _ (cw_o0 hI.1)) (Exists.intro _ (Exists.intro _ (Exists.intro _ (Exists.intro _ (And.intro (c_X10_touched hI hS a1 ) (And.intro (lw_bnd rfl (lx_c1 hc (by decide)) (lx_c1 hs0 (by decide)) rfl) (fun r9 A9 h9 => ?_)))))))
  obtain ⟨y2355, rfl, rfl, by2355⟩ := h9
  refine pq_id1 (pq_pop (pq_aload_n2 (pq_aload_n0 (pq_iload_n3 (pq_iconst (pq_iadd ?_))))))
  intro m2 em2
  have e2 : m2.toInt = i.toInt + 1 := lx_ad1 hi hL em2
  refine pq_iaload ?_
  refine Exists.intro _ (Exists.intro _ (And.intro (Or.inr hro) (And.intro (lx_bn1 hi e2) ?_)))
  have ha1_2 : a1 = xs m2.toInt.toNat := by rw [ha1, em2, ← m_a1]
  rw [← ha1_2]
  refine pq_iv1_11 ?_
  rw [cw_md D dj]
  refine And.intro (Exists.intro _ (md_o)) (Exists.intro _ (Exists.intro _ (Exists.intro _ (Exists.intro _ (And.intro (c_X11_touched D mv mf hv hf a1 ) (And.intro (lw_bnd rfl (lx_c2 hc (by decide)) (lx_c2 hs0 (by decide)) rfl) (fun r9 A9 h9 => ?_)))))))
  obtain ⟨y2365, rfl, rfl, by2365⟩ := h9
  refine pq_id1 (pq_pop (pq_goto ?_))
  clear hu9
  exact cont _ _ _ ⟨A00, K, nn, dn, q, w, e, v, f, mq, mv, mf, M, (cw_md D dj).symm, rfl, hI, hS, D, hv, hf, dj, fun j hj => by exact hw j hj, by omega, by omega, hR1, hR2, hg, (by omega), hN, hM, hB, hH, hQ, hU, hT, h5⟩ (by omega) (by omega)

set_option maxRecDepth 100000 in
set_option maxHeartbeats 2000000 in
theorem lx_b60 (hC : pm_Cl l g (lw_ro b L xs) 7 600000 7302250 lw_Rt bk_L_law J) {i : Int32} (hi : 0 ≤ i.toInt ∧ i.toInt + 6 ≤ L) (hL : L ≤ 3072) {E : Nat} (hE : E < 1000) {A : pm_H} {c s : Nat} (hA : LX g xo h E A) (hc : c + 4 ≤ 600000) (hs0 : s + 485 ≤ 7302250) (cont : ∀ (A' : pm_H) (c' s' : Nat), LX g xo h (E + 1) A' → c' ≤ c + 4 → s' ≤ s + 485 → J 2563 [some (.ref b), some (.ref xo), some (.ref h), some (.int i)] [] A' c' s') : J 2372 [some (.ref b), some (.ref xo), some (.ref h), some (.int i)] [] A c s := by
  obtain ⟨A00, K, nn, dn, q, w, e, v, f, mq, mv, mf, M, rfl, rfl, hI, hS, D, hv, hf, dj, hw, hE1, hE2, hR1, hR2, hg, he0, hN, hM, hB, hH, hQ, hU, hT, h5⟩ := hA
  have hu9 := hI.2.1
  unfold cw_W at hu9
  have hro : lw_ro b L xs b = some (L, xs) := if_pos rfl
  refine hC.1 60 2372 _ _ rfl _ _ _ _ _ ?_
  refine pq_aload_n1 (pq_aload_n0 (pq_iload_n3 (pq_iconst (pq_iadd ?_))))
  intro m1 em1
  have e1 : m1.toInt = i.toInt + 1 := lx_ad1 hi hL em1
  refine pq_iaload ?_
  refine Exists.intro _ (Exists.intro _ (And.intro (Or.inr hro) (And.intro (lx_bn1 hi e1) ?_)))
  obtain ⟨a1, ha1⟩ : ∃ z9, z9 = xs m1.toInt.toNat := ⟨_, rfl⟩
  have m_a1 := em1
  rw [← ha1]
  refine pq_iv1_10 ?_
  refine And.intro (Exists.intro _ (cw_o0 hI.1)) (Exists.intro _ (Exists.intro _ (Exists.intro _ (Exists.intro _ (And.intro (c_X10_since hI hS a1 ) (And.intro (lw_bnd rfl (lx_c1 hc (by decide)) (lx_c1 hs0 (by decide)) rfl) (fun r9 A9 h9 => ?_)))))))
  obtain ⟨y2378, rfl, rfl, by2378⟩ := h9
  refine pq_id1 (pq_pop (pq_aload_n2 (pq_aload_n0 (pq_iload_n3 (pq_iconst (pq_iadd ?_))))))
  intro m2 em2
  have e2 : m2.toInt = i.toInt + 1 := lx_ad1 hi hL em2
  refine pq_iaload ?_
  refine Exists.intro _ (Exists.intro _ (And.intro (Or.inr hro) (And.intro (lx_bn1 hi e2) ?_)))
  have ha1_2 : a1 = xs m2.toInt.toNat := by rw [ha1, em2, ← m_a1]
  rw [← ha1_2]
  refine pq_iv1_11 ?_
  rw [cw_md D dj]
  refine And.intro (Exists.intro _ (md_o)) (Exists.intro _ (Exists.intro _ (Exists.intro _ (Exists.intro _ (And.intro (c_X11_since D mv mf hv hf a1 ) (And.intro (lw_bnd rfl (lx_c2 hc (by decide)) (lx_c2 hs0 (by decide)) rfl) (fun r9 A9 h9 => ?_)))))))
  obtain ⟨y2388, rfl, rfl, by2388⟩ := h9
  refine pq_id1 (pq_pop (pq_goto ?_))
  clear hu9
  exact cont _ _ _ ⟨A00, K, nn, dn, q, w, e, v, f, mq, mv, mf, M, (cw_md D dj).symm, rfl, hI, hS, D, hv, hf, dj, fun j hj => by exact hw j hj, by omega, by omega, hR1, hR2, hg, (by omega), hN, hM, hB, hH, hQ, hU, hT, h5⟩ (by omega) (by omega)

set_option maxRecDepth 100000 in
set_option maxHeartbeats 2000000 in
theorem lx_b61 (hC : pm_Cl l g (lw_ro b L xs) 7 600000 7302250 lw_Rt bk_L_law J) {i : Int32} (hi : 0 ≤ i.toInt ∧ i.toInt + 6 ≤ L) (hL : L ≤ 3072) {E : Nat} (hE : E < 1000) {A : pm_H} {c s : Nat} (hA : LX g xo h E A) (hc : c + 4 ≤ 600000) (hs0 : s + 485 ≤ 7302250) (cont : ∀ (A' : pm_H) (c' s' : Nat), LX g xo h (E + 1) A' → c' ≤ c + 4 → s' ≤ s + 485 → J 2563 [some (.ref b), some (.ref xo), some (.ref h), some (.int i)] [] A' c' s') : J 2395 [some (.ref b), some (.ref xo), some (.ref h), some (.int i)] [] A c s := by
  obtain ⟨A00, K, nn, dn, q, w, e, v, f, mq, mv, mf, M, rfl, rfl, hI, hS, D, hv, hf, dj, hw, hE1, hE2, hR1, hR2, hg, he0, hN, hM, hB, hH, hQ, hU, hT, h5⟩ := hA
  have hu9 := hI.2.1
  unfold cw_W at hu9
  have hro : lw_ro b L xs b = some (L, xs) := if_pos rfl
  refine hC.1 61 2395 _ _ rfl _ _ _ _ _ ?_
  refine pq_aload_n1 (pq_aload_n0 (pq_iload_n3 (pq_iconst (pq_iadd ?_))))
  intro m1 em1
  have e1 : m1.toInt = i.toInt + 1 := lx_ad1 hi hL em1
  refine pq_iaload ?_
  refine Exists.intro _ (Exists.intro _ (And.intro (Or.inr hro) (And.intro (lx_bn1 hi e1) ?_)))
  obtain ⟨a1, ha1⟩ : ∃ z9, z9 = xs m1.toInt.toNat := ⟨_, rfl⟩
  have m_a1 := em1
  rw [← ha1]
  refine pq_aload_n0 (pq_iload_n3 (pq_iconst (pq_iadd ?_)))
  intro m2 em2
  have e2 : m2.toInt = i.toInt + 2 := lx_ad2 hi hL em2
  refine pq_iaload ?_
  refine Exists.intro _ (Exists.intro _ (And.intro (Or.inr hro) (And.intro (lx_bn2 hi e2) ?_)))
  obtain ⟨a2, ha2⟩ : ∃ z9, z9 = xs m2.toInt.toNat := ⟨_, rfl⟩
  have m_a2 := em2
  rw [← ha2]
  refine pq_iv2_10 ?_
  refine And.intro (Exists.intro _ (cw_o0 hI.1)) (Exists.intro _ (Exists.intro _ (Exists.intro _ (Exists.intro _ (And.intro (c_X10_changed hI hS a1 a2 ) (And.intro (lw_bnd rfl (lx_c1 hc (by decide)) (lx_c1 hs0 (by decide)) rfl) (fun r9 A9 h9 => ?_)))))))
  obtain ⟨y2406, rfl, rfl, by2406⟩ := h9
  refine pq_id1 (pq_pop (pq_aload_n2 (pq_aload_n0 (pq_iload_n3 (pq_iconst (pq_iadd ?_))))))
  intro m3 em3
  have e3 : m3.toInt = i.toInt + 1 := lx_ad1 hi hL em3
  refine pq_iaload ?_
  refine Exists.intro _ (Exists.intro _ (And.intro (Or.inr hro) (And.intro (lx_bn1 hi e3) ?_)))
  have ha1_3 : a1 = xs m3.toInt.toNat := by rw [ha1, em3, ← m_a1]
  rw [← ha1_3]
  refine pq_aload_n0 (pq_iload_n3 (pq_iconst (pq_iadd ?_)))
  intro m4 em4
  have e4 : m4.toInt = i.toInt + 2 := lx_ad2 hi hL em4
  refine pq_iaload ?_
  refine Exists.intro _ (Exists.intro _ (And.intro (Or.inr hro) (And.intro (lx_bn2 hi e4) ?_)))
  have ha2_4 : a2 = xs m4.toInt.toNat := by rw [ha2, em4, ← m_a2]
  rw [← ha2_4]
  refine pq_iv2_11 ?_
  rw [cw_md D dj]
  refine And.intro (Exists.intro _ (md_o)) (Exists.intro _ (Exists.intro _ (Exists.intro _ (Exists.intro _ (And.intro (c_X11_changed D mv mf hv hf a1 a2 ) (And.intro (lw_bnd rfl (lx_c2 hc (by decide)) (lx_c2 hs0 (by decide)) rfl) (fun r9 A9 h9 => ?_)))))))
  obtain ⟨y2421, rfl, rfl, by2421⟩ := h9
  refine pq_id1 (pq_pop (pq_goto ?_))
  clear hu9
  exact cont _ _ _ ⟨A00, K, nn, dn, q, w, e, v, f, mq, mv, mf, M, (cw_md D dj).symm, rfl, hI, hS, D, hv, hf, dj, fun j hj => by exact hw j hj, by omega, by omega, hR1, hR2, hg, (by omega), hN, hM, hB, hH, hQ, hU, hT, h5⟩ (by omega) (by omega)

set_option maxRecDepth 100000 in
set_option maxHeartbeats 2000000 in
theorem lx_b62 (hC : pm_Cl l g (lw_ro b L xs) 7 600000 7302250 lw_Rt bk_L_law J) {i : Int32} (hi : 0 ≤ i.toInt ∧ i.toInt + 6 ≤ L) (hL : L ≤ 3072) {E : Nat} (hE : E < 1000) {A : pm_H} {c s : Nat} (hA : LX g xo h E A) (hc : c + 4 ≤ 600000) (hs0 : s + 485 ≤ 7302250) (cont : ∀ (A' : pm_H) (c' s' : Nat), LX g xo h (E + 1) A' → c' ≤ c + 4 → s' ≤ s + 485 → J 2563 [some (.ref b), some (.ref xo), some (.ref h), some (.int i)] [] A' c' s') : J 2428 [some (.ref b), some (.ref xo), some (.ref h), some (.int i)] [] A c s := by
  obtain ⟨A00, K, nn, dn, q, w, e, v, f, mq, mv, mf, M, rfl, rfl, hI, hS, D, hv, hf, dj, hw, hE1, hE2, hR1, hR2, hg, he0, hN, hM, hB, hH, hQ, hU, hT, h5⟩ := hA
  have hu9 := hI.2.1
  unfold cw_W at hu9
  have hro : lw_ro b L xs b = some (L, xs) := if_pos rfl
  refine hC.1 62 2428 _ _ rfl _ _ _ _ _ ?_
  refine pq_aload_n1 (pq_aload_n0 (pq_iload_n3 (pq_iconst (pq_iadd ?_))))
  intro m1 em1
  have e1 : m1.toInt = i.toInt + 1 := lx_ad1 hi hL em1
  refine pq_iaload ?_
  refine Exists.intro _ (Exists.intro _ (And.intro (Or.inr hro) (And.intro (lx_bn1 hi e1) ?_)))
  obtain ⟨a1, ha1⟩ : ∃ z9, z9 = xs m1.toInt.toNat := ⟨_, rfl⟩
  have m_a1 := em1
  rw [← ha1]
  refine pq_aload_n0 (pq_iload_n3 (pq_iconst (pq_iadd ?_)))
  intro m2 em2
  have e2 : m2.toInt = i.toInt + 2 := lx_ad2 hi hL em2
  refine pq_iaload ?_
  refine Exists.intro _ (Exists.intro _ (And.intro (Or.inr hro) (And.intro (lx_bn2 hi e2) ?_)))
  obtain ⟨a2, ha2⟩ : ∃ z9, z9 = xs m2.toInt.toNat := ⟨_, rfl⟩
  have m_a2 := em2
  rw [← ha2]
  refine pq_iv2_10 ?_
  refine And.intro (Exists.intro _ (cw_o0 hI.1)) (Exists.intro _ (Exists.intro _ (Exists.intro _ (Exists.intro _ (And.intro (V_X10_ask hI hS a1 a2 ) (And.intro (lw_bnd rfl (lx_c1 hc (by decide)) (lx_c1 hs0 (by decide)) rfl) (fun r9 A9 h9 => ?_)))))))
  obtain ⟨w2439, e2439, v2439, f2439, rfl, hI2439, hS2439, hy2439, y2439, rfl, by2439⟩ := h9
  have fr2439 := by2439.2.1
  refine pq_id1 (pq_pop (pq_aload_n2 (pq_aload_n0 (pq_iload_n3 (pq_iconst (pq_iadd ?_))))))
  intro m3 em3
  have e3 : m3.toInt = i.toInt + 1 := lx_ad1 hi hL em3
  refine pq_iaload ?_
  refine Exists.intro _ (Exists.intro _ (And.intro (Or.inr hro) (And.intro (lx_bn1 hi e3) ?_)))
  have ha1_3 : a1 = xs m3.toInt.toNat := by rw [ha1, em3, ← m_a1]
  rw [← ha1_3]
  refine pq_aload_n0 (pq_iload_n3 (pq_iconst (pq_iadd ?_)))
  intro m4 em4
  have e4 : m4.toInt = i.toInt + 2 := lx_ad2 hi hL em4
  refine pq_iaload ?_
  refine Exists.intro _ (Exists.intro _ (And.intro (Or.inr hro) (And.intro (lx_bn2 hi e4) ?_)))
  have ha2_4 : a2 = xs m4.toInt.toNat := by rw [ha2, em4, ← m_a2]
  rw [← ha2_4]
  refine pq_iv2_11 ?_
  rw [cw_md D dj]
  refine And.intro (Exists.intro _ (md_o)) (Exists.intro _ (Exists.intro _ (Exists.intro _ (Exists.intro _ (And.intro (V_X11_ask D mv mf hv hf a1 a2 ) (And.intro (lw_bnd rfl (lx_c2 hc (by decide)) (lx_c2 hs0 (by decide)) rfl) (fun r9 A9 h9 => ?_)))))))
  obtain ⟨y2454, mv2454, mf2454, rfl, rfl, hv2454, hf2454, hx2454, hg2454_0, hg2454_1, hg2454_12, hg2454_13, hg2454_14, hg2454_15, by2454⟩ := h9
  have hq9 : QX w2439 e2439 mv2454 mf2454 ∧ y2439 = y2454 := QX_q hQ (by omega) by2439.2.2 by2454.2 (ASK_ok hQ hM hR1 hR2)
  refine pq_id1 (pq_pop (pq_goto ?_))
  exact cont _ _ _ ⟨A00, K, nn, dn, q, w2439, e2439, v2439, f2439, mq, mv2454, mf2454, M, (cw_md D dj).symm, rfl, hI2439, hS2439, D, hv2454, hf2454, dj, fun j hj => by rw [hy2439, hx2454]; exact hw j hj, by omega, by omega, (rp_fr hR1 (congrArg Int32.toInt (fr2439 nn (by omega)).1) (fr2439 (nn + 1) (by omega)).2 (fr2439 (nn + 2) (by omega)).2), (rp_fr hR2 (by omega) hg2454_0 hg2454_1), (pm_eqI (by have q9 := congrArg Int32.toInt hg; omega)), (by omega), (by omega), hM, (bd_fr hB (congrArg Int32.toInt (fr2439 nn (by omega)).1) (fr2439 (nn + 1) (by omega)).2 (fr2439 (nn + 3) (by omega)).2), (HX_m (HX_c hH (by omega) fr2439) hg2454_12 hg2454_13 hg2454_14), hq9.1, (by rw [show (w2439 1).toInt = (w 1).toInt by omega]; exact hU), (HT_m (HT_c hT (by omega) (fun i9 h9 => (fr2439 i9 h9).1)) hg2454_15), (pm_eqI (by have q9 := congrArg Int32.toInt h5; omega))⟩ (by omega) (by omega)

set_option maxRecDepth 100000 in
set_option maxHeartbeats 2000000 in
theorem lx_b63 (hC : pm_Cl l g (lw_ro b L xs) 7 600000 7302250 lw_Rt bk_L_law J) {i : Int32} (hi : 0 ≤ i.toInt ∧ i.toInt + 6 ≤ L) (hL : L ≤ 3072) {E : Nat} (hE : E < 1000) {A : pm_H} {c s : Nat} (hA : LX g xo h E A) (hc : c + 4 ≤ 600000) (hs0 : s + 485 ≤ 7302250) (cont : ∀ (A' : pm_H) (c' s' : Nat), LX g xo h (E + 1) A' → c' ≤ c + 4 → s' ≤ s + 485 → J 2563 [some (.ref b), some (.ref xo), some (.ref h), some (.int i)] [] A' c' s') : J 2461 [some (.ref b), some (.ref xo), some (.ref h), some (.int i)] [] A c s := by
  obtain ⟨A00, K, nn, dn, q, w, e, v, f, mq, mv, mf, M, rfl, rfl, hI, hS, D, hv, hf, dj, hw, hE1, hE2, hR1, hR2, hg, he0, hN, hM, hB, hH, hQ, hU, hT, h5⟩ := hA
  have hu9 := hI.2.1
  unfold cw_W at hu9
  have hro : lw_ro b L xs b = some (L, xs) := if_pos rfl
  refine hC.1 63 2461 _ _ rfl _ _ _ _ _ ?_
  refine pq_aload_n1 (pq_aload_n0 (pq_iload_n3 (pq_iconst (pq_iadd ?_))))
  intro m1 em1
  have e1 : m1.toInt = i.toInt + 1 := lx_ad1 hi hL em1
  refine pq_iaload ?_
  refine Exists.intro _ (Exists.intro _ (And.intro (Or.inr hro) (And.intro (lx_bn1 hi e1) ?_)))
  obtain ⟨a1, ha1⟩ : ∃ z9, z9 = xs m1.toInt.toNat := ⟨_, rfl⟩
  have m_a1 := em1
  rw [← ha1]
  refine pq_aload_n0 (pq_iload_n3 (pq_iconst (pq_iadd ?_)))
  intro m2 em2
  have e2 : m2.toInt = i.toInt + 2 := lx_ad2 hi hL em2
  refine pq_iaload ?_
  refine Exists.intro _ (Exists.intro _ (And.intro (Or.inr hro) (And.intro (lx_bn2 hi e2) ?_)))
  obtain ⟨a2, ha2⟩ : ∃ z9, z9 = xs m2.toInt.toNat := ⟨_, rfl⟩
  have m_a2 := em2
  rw [← ha2]
  refine pq_aload_n0 (pq_iload_n3 (pq_iconst (pq_iadd ?_)))
  intro m3 em3
  have e3 : m3.toInt = i.toInt + 3 := lx_ad3 hi hL em3
  refine pq_iaload ?_
  refine Exists.intro _ (Exists.intro _ (And.intro (Or.inr hro) (And.intro (lx_bn3 hi e3) ?_)))
  obtain ⟨a3, ha3⟩ : ∃ z9, z9 = xs m3.toInt.toNat := ⟨_, rfl⟩
  have m_a3 := em3
  rw [← ha3]
  refine pq_iv3_10 ?_
  refine And.intro (Exists.intro _ (cw_o0 hI.1)) (Exists.intro _ (Exists.intro _ (Exists.intro _ (Exists.intro _ (And.intro (V_X10_askOf hI hS a1 a2 a3 ) (And.intro (lw_bnd rfl (lx_c1 hc (by decide)) (lx_c1 hs0 (by decide)) rfl) (fun r9 A9 h9 => ?_)))))))
  obtain ⟨w2477, e2477, v2477, f2477, rfl, hI2477, hS2477, hy2477, y2477, rfl, by2477⟩ := h9
  have fr2477 := by2477.2.1
  refine pq_id1 (pq_pop (pq_aload_n2 (pq_aload_n0 (pq_iload_n3 (pq_iconst (pq_iadd ?_))))))
  intro m4 em4
  have e4 : m4.toInt = i.toInt + 1 := lx_ad1 hi hL em4
  refine pq_iaload ?_
  refine Exists.intro _ (Exists.intro _ (And.intro (Or.inr hro) (And.intro (lx_bn1 hi e4) ?_)))
  have ha1_4 : a1 = xs m4.toInt.toNat := by rw [ha1, em4, ← m_a1]
  rw [← ha1_4]
  refine pq_aload_n0 (pq_iload_n3 (pq_iconst (pq_iadd ?_)))
  intro m5 em5
  have e5 : m5.toInt = i.toInt + 2 := lx_ad2 hi hL em5
  refine pq_iaload ?_
  refine Exists.intro _ (Exists.intro _ (And.intro (Or.inr hro) (And.intro (lx_bn2 hi e5) ?_)))
  have ha2_5 : a2 = xs m5.toInt.toNat := by rw [ha2, em5, ← m_a2]
  rw [← ha2_5]
  refine pq_aload_n0 (pq_iload_n3 (pq_iconst (pq_iadd ?_)))
  intro m6 em6
  have e6 : m6.toInt = i.toInt + 3 := lx_ad3 hi hL em6
  refine pq_iaload ?_
  refine Exists.intro _ (Exists.intro _ (And.intro (Or.inr hro) (And.intro (lx_bn3 hi e6) ?_)))
  have ha3_6 : a3 = xs m6.toInt.toNat := by rw [ha3, em6, ← m_a3]
  rw [← ha3_6]
  refine pq_iv3_11 ?_
  rw [cw_md D dj]
  refine And.intro (Exists.intro _ (md_o)) (Exists.intro _ (Exists.intro _ (Exists.intro _ (Exists.intro _ (And.intro (V_X11_askOf D mv mf hv hf a1 a2 a3 ) (And.intro (lw_bnd rfl (lx_c2 hc (by decide)) (lx_c2 hs0 (by decide)) rfl) (fun r9 A9 h9 => ?_)))))))
  obtain ⟨y2497, mv2497, mf2497, rfl, rfl, hv2497, hf2497, hx2497, hg2497_0, hg2497_1, hg2497_12, hg2497_13, hg2497_14, hg2497_15, by2497⟩ := h9
  have hq9 : QX w2477 e2477 mv2497 mf2497 ∧ y2477 = y2497 := QX_q hQ (by omega) by2477.2.2 by2497.2 (ASO_ok hQ hH he0)
  refine pq_id1 (pq_pop (pq_goto ?_))
  exact cont _ _ _ ⟨A00, K, nn, dn, q, w2477, e2477, v2477, f2477, mq, mv2497, mf2497, M, (cw_md D dj).symm, rfl, hI2477, hS2477, D, hv2497, hf2497, dj, fun j hj => by rw [hy2477, hx2497]; exact hw j hj, by omega, by omega, (rp_fr hR1 (congrArg Int32.toInt (fr2477 nn (by omega)).1) (fr2477 (nn + 1) (by omega)).2 (fr2477 (nn + 2) (by omega)).2), (rp_fr hR2 (by omega) hg2497_0 hg2497_1), (pm_eqI (by have q9 := congrArg Int32.toInt hg; omega)), (by omega), (by omega), hM, (bd_fr hB (congrArg Int32.toInt (fr2477 nn (by omega)).1) (fr2477 (nn + 1) (by omega)).2 (fr2477 (nn + 3) (by omega)).2), (HX_m (HX_c hH (by omega) fr2477) hg2497_12 hg2497_13 hg2497_14), hq9.1, (by rw [show (w2477 1).toInt = (w 1).toInt by omega]; exact hU), (HT_m (HT_c hT (by omega) (fun i9 h9 => (fr2477 i9 h9).1)) hg2497_15), (pm_eqI (by have q9 := congrArg Int32.toInt h5; omega))⟩ (by omega) (by omega)

set_option maxRecDepth 100000 in
set_option maxHeartbeats 2000000 in
theorem lx_b64 (hC : pm_Cl l g (lw_ro b L xs) 7 600000 7302250 lw_Rt bk_L_law J) {i : Int32} (hi : 0 ≤ i.toInt ∧ i.toInt + 6 ≤ L) (hL : L ≤ 3072) {E : Nat} (hE : E < 1000) {A : pm_H} {c s : Nat} (hA : LX g xo h E A) (hc : c + 4 ≤ 600000) (hs0 : s + 485 ≤ 7302250) (cont : ∀ (A' : pm_H) (c' s' : Nat), LX g xo h (E + 1) A' → c' ≤ c + 4 → s' ≤ s + 485 → J 2563 [some (.ref b), some (.ref xo), some (.ref h), some (.int i)] [] A' c' s') : J 2504 [some (.ref b), some (.ref xo), some (.ref h), some (.int i)] [] A c s := by
  obtain ⟨A00, K, nn, dn, q, w, e, v, f, mq, mv, mf, M, rfl, rfl, hI, hS, D, hv, hf, dj, hw, hE1, hE2, hR1, hR2, hg, he0, hN, hM, hB, hH, hQ, hU, hT, h5⟩ := hA
  have hu9 := hI.2.1
  unfold cw_W at hu9
  have hro : lw_ro b L xs b = some (L, xs) := if_pos rfl
  refine hC.1 64 2504 _ _ rfl _ _ _ _ _ ?_
  refine pq_aload_n1 (pq_iv0_10 ?_)
  refine And.intro (Exists.intro _ (cw_o0 hI.1)) (Exists.intro _ (Exists.intro _ (Exists.intro _ (Exists.intro _ (And.intro (V_X10_solve hI hS  ) (And.intro (lw_bnd rfl (lx_c1 hc (by decide)) (lx_c1 hs0 (by decide)) rfl) (fun r9 A9 h9 => ?_)))))))
  obtain ⟨w2505, e2505, v2505, f2505, rfl, hI2505, hS2505, hy2505, y2505, rfl, by2505⟩ := h9
  have fr2505 := by2505.2.1
  refine pq_id1 (pq_pop (pq_aload_n2 (pq_iv0_11 ?_)))
  rw [cw_md D dj]
  refine And.intro (Exists.intro _ (md_o)) (Exists.intro _ (Exists.intro _ (Exists.intro _ (Exists.intro _ (And.intro (V_X11_solve D mv mf hv hf  ) (And.intro (lw_bnd rfl (lx_c2 hc (by decide)) (lx_c2 hs0 (by decide)) rfl) (fun r9 A9 h9 => ?_)))))))
  obtain ⟨y2510, mv2510, mf2510, rfl, rfl, hv2510, hf2510, hx2510, hg2510_0, hg2510_1, hg2510_12, hg2510_13, hg2510_14, hg2510_15, hg2510_7, hg2510_8, hg2510_11, by2510⟩ := h9
  have hs9 := by2505.2.2
  have hq9 : QX w2505 e2505 mv2510 mf2510 ∧ y2505 = y2510 := QX_s hQ hH he0 hR1 hR2 hw hs9.1.1 hs9.1.2.2.1 hs9.1.2.2.2.1 hs9.1.2.2.2.2 hs9.2.1 hs9.2.2 (by omega) hg2510_7 hg2510_8 hg2510_11 by2510.2.1 by2510.2.2
  refine pq_id1 (pq_pop (pq_goto ?_))
  exact cont _ _ _ ⟨A00, K, nn, dn, q, w2505, e2505, v2505, f2505, mq, mv2510, mf2510, M, (cw_md D dj).symm, rfl, hI2505, hS2505, D, hv2510, hf2510, dj, fun j hj => by rw [hy2505, hx2510]; exact hw j hj, by omega, by omega, (rp_fr hR1 (congrArg Int32.toInt (fr2505 nn (by omega)).1) (fr2505 (nn + 1) (by omega)).2 (fr2505 (nn + 2) (by omega)).2), (rp_fr hR2 (by omega) hg2510_0 hg2510_1), (pm_eqI (by have q9 := congrArg Int32.toInt hg; omega)), (by omega), (by omega), hM, (bd_fr hB (congrArg Int32.toInt (fr2505 nn (by omega)).1) (fr2505 (nn + 1) (by omega)).2 (fr2505 (nn + 3) (by omega)).2), (HX_m (HX_c hH (by omega) fr2505) hg2510_12 hg2510_13 hg2510_14), hq9.1, (by rw [show (w2505 1).toInt = (w 1).toInt by omega]; exact hU), (HT_m (HT_c hT (by omega) (fun i9 h9 => (fr2505 i9 h9).1)) hg2510_15), (pm_eqI (by have q9 := congrArg Int32.toInt h5; omega))⟩ (by omega) (by omega)

set_option maxRecDepth 100000 in
set_option maxHeartbeats 2000000 in
theorem lx_b65 (hC : pm_Cl l g (lw_ro b L xs) 7 600000 7302250 lw_Rt bk_L_law J) {i : Int32} (hi : 0 ≤ i.toInt ∧ i.toInt + 6 ≤ L) (hL : L ≤ 3072) {E : Nat} (hE : E < 1000) {A : pm_H} {c s : Nat} (hA : LX g xo h E A) (hc : c + 4 ≤ 600000) (hs0 : s + 485 ≤ 7302250) (cont : ∀ (A' : pm_H) (c' s' : Nat), LX g xo h (E + 1) A' → c' ≤ c + 4 → s' ≤ s + 485 → J 2563 [some (.ref b), some (.ref xo), some (.ref h), some (.int i)] [] A' c' s') : J 2517 [some (.ref b), some (.ref xo), some (.ref h), some (.int i)] [] A c s := by
  obtain ⟨A00, K, nn, dn, q, w, e, v, f, mq, mv, mf, M, rfl, rfl, hI, hS, D, hv, hf, dj, hw, hE1, hE2, hR1, hR2, hg, he0, hN, hM, hB, hH, hQ, hU, hT, h5⟩ := hA
  have hu9 := hI.2.1
  unfold cw_W at hu9
  have hro : lw_ro b L xs b = some (L, xs) := if_pos rfl
  refine hC.1 65 2517 _ _ rfl _ _ _ _ _ ?_
  refine pq_aload_n1 (pq_aload_n0 (pq_iload_n3 (pq_iconst (pq_iadd ?_))))
  intro m1 em1
  have e1 : m1.toInt = i.toInt + 1 := lx_ad1 hi hL em1
  refine pq_iaload ?_
  refine Exists.intro _ (Exists.intro _ (And.intro (Or.inr hro) (And.intro (lx_bn1 hi e1) ?_)))
  obtain ⟨a1, ha1⟩ : ∃ z9, z9 = xs m1.toInt.toNat := ⟨_, rfl⟩
  have m_a1 := em1
  rw [← ha1]
  refine pq_aload_n0 (pq_iload_n3 (pq_iconst (pq_iadd ?_)))
  intro m2 em2
  have e2 : m2.toInt = i.toInt + 2 := lx_ad2 hi hL em2
  refine pq_iaload ?_
  refine Exists.intro _ (Exists.intro _ (And.intro (Or.inr hro) (And.intro (lx_bn2 hi e2) ?_)))
  obtain ⟨a2, ha2⟩ : ∃ z9, z9 = xs m2.toInt.toNat := ⟨_, rfl⟩
  have m_a2 := em2
  rw [← ha2]
  refine pq_iv2_10 ?_
  refine And.intro (Exists.intro _ (cw_o0 hI.1)) (Exists.intro _ (Exists.intro _ (Exists.intro _ (Exists.intro _ (And.intro (V_X10_asked hI hS a1 a2 ) (And.intro (lw_bnd rfl (lx_c1 hc (by decide)) (lx_c1 hs0 (by decide)) rfl) (fun r9 A9 h9 => ?_)))))))
  obtain ⟨y2528, rfl, rfl, by2528⟩ := h9
  refine pq_id1 (pq_pop (pq_aload_n2 (pq_aload_n0 (pq_iload_n3 (pq_iconst (pq_iadd ?_))))))
  intro m3 em3
  have e3 : m3.toInt = i.toInt + 1 := lx_ad1 hi hL em3
  refine pq_iaload ?_
  refine Exists.intro _ (Exists.intro _ (And.intro (Or.inr hro) (And.intro (lx_bn1 hi e3) ?_)))
  have ha1_3 : a1 = xs m3.toInt.toNat := by rw [ha1, em3, ← m_a1]
  rw [← ha1_3]
  refine pq_aload_n0 (pq_iload_n3 (pq_iconst (pq_iadd ?_)))
  intro m4 em4
  have e4 : m4.toInt = i.toInt + 2 := lx_ad2 hi hL em4
  refine pq_iaload ?_
  refine Exists.intro _ (Exists.intro _ (And.intro (Or.inr hro) (And.intro (lx_bn2 hi e4) ?_)))
  have ha2_4 : a2 = xs m4.toInt.toNat := by rw [ha2, em4, ← m_a2]
  rw [← ha2_4]
  refine pq_iv2_11 ?_
  rw [cw_md D dj]
  refine And.intro (Exists.intro _ (md_o)) (Exists.intro _ (Exists.intro _ (Exists.intro _ (Exists.intro _ (And.intro (V_X11_asked D mv mf hv hf a1 a2 ) (And.intro (lw_bnd rfl (lx_c2 hc (by decide)) (lx_c2 hs0 (by decide)) rfl) (fun r9 A9 h9 => ?_)))))))
  obtain ⟨y2543, rfl, rfl, by2543⟩ := h9
  refine pq_id1 (pq_pop (pq_goto ?_))
  clear hu9
  exact cont _ _ _ ⟨A00, K, nn, dn, q, w, e, v, f, mq, mv, mf, M, (cw_md D dj).symm, rfl, hI, hS, D, hv, hf, dj, fun j hj => by exact hw j hj, by omega, by omega, hR1, hR2, hg, (by omega), hN, hM, hB, hH, hQ, hU, hT, h5⟩ (by omega) (by omega)

set_option maxRecDepth 100000 in
set_option maxHeartbeats 2000000 in
theorem lx_b66 (hC : pm_Cl l g (lw_ro b L xs) 7 600000 7302250 lw_Rt bk_L_law J) {i : Int32} (hi : 0 ≤ i.toInt ∧ i.toInt + 6 ≤ L) (hL : L ≤ 3072) {E : Nat} (hE : E < 1000) {A : pm_H} {c s : Nat} (hA : LX g xo h E A) (hc : c + 4 ≤ 600000) (hs0 : s + 485 ≤ 7302250) (cont : ∀ (A' : pm_H) (c' s' : Nat), LX g xo h (E + 1) A' → c' ≤ c + 4 → s' ≤ s + 485 → J 2563 [some (.ref b), some (.ref xo), some (.ref h), some (.int i)] [] A' c' s') : J 2550 [some (.ref b), some (.ref xo), some (.ref h), some (.int i)] [] A c s := by
  obtain ⟨A00, K, nn, dn, q, w, e, v, f, mq, mv, mf, M, rfl, rfl, hI, hS, D, hv, hf, dj, hw, hE1, hE2, hR1, hR2, hg, he0, hN, hM, hB, hH, hQ, hU, hT, h5⟩ := hA
  have hu9 := hI.2.1
  unfold cw_W at hu9
  have hro : lw_ro b L xs b = some (L, xs) := if_pos rfl
  refine hC.1 66 2550 _ _ rfl _ _ _ _ _ ?_
  refine pq_aload_n1 (pq_iv0_10 ?_)
  refine And.intro (Exists.intro _ (cw_o0 hI.1)) (Exists.intro _ (Exists.intro _ (Exists.intro _ (Exists.intro _ (And.intro (V_X10_forget hI hS  ) (And.intro (lw_bnd rfl (lx_c1 hc (by decide)) (lx_c1 hs0 (by decide)) rfl) (fun r9 A9 h9 => ?_)))))))
  obtain ⟨w2551, e2551, v2551, f2551, rfl, hI2551, hS2551, hy2551, y2551, rfl, by2551⟩ := h9
  have fr2551 := by2551.2.1
  refine pq_id1 (pq_pop (pq_aload_n2 (pq_iv0_11 ?_)))
  rw [cw_md D dj]
  refine And.intro (Exists.intro _ (md_o)) (Exists.intro _ (Exists.intro _ (Exists.intro _ (Exists.intro _ (And.intro (V_X11_forget D mv mf hv hf  ) (And.intro (lw_bnd rfl (lx_c2 hc (by decide)) (lx_c2 hs0 (by decide)) rfl) (fun r9 A9 h9 => ?_)))))))
  obtain ⟨y2556, mv2556, mf2556, rfl, rfl, hv2556, hf2556, hx2556, hg2556_0, hg2556_1, hg2556_12, hg2556_13, hg2556_14, hg2556_15, hg2556_7, hg2556_8, hg2556_9, hg2556_10, hg2556_11, by2556⟩ := h9
  have hq9 : QX w2551 e2551 mv2556 mf2556 ∧ y2551 = y2556 := QX_f hQ by2551.2.2.1.1 by2551.2.2.1.2 by2556.2.1 by2556.2.2
  refine pq_id1 (pq_pop (pq_goto ?_))
  exact cont _ _ _ ⟨A00, K, nn, dn, q, w2551, e2551, v2551, f2551, mq, mv2556, mf2556, M, (cw_md D dj).symm, rfl, hI2551, hS2551, D, hv2556, hf2556, dj, fun j hj => by rw [hy2551, hx2556]; exact hw j hj, by omega, by omega, (rp_fr hR1 (congrArg Int32.toInt (fr2551 nn (by omega)).1) (fr2551 (nn + 1) (by omega)).2 (fr2551 (nn + 2) (by omega)).2), (rp_fr hR2 (by omega) hg2556_0 hg2556_1), (pm_eqI (by have q9 := congrArg Int32.toInt hg; omega)), (by omega), (by omega), hM, (bd_fr hB (congrArg Int32.toInt (fr2551 nn (by omega)).1) (fr2551 (nn + 1) (by omega)).2 (fr2551 (nn + 3) (by omega)).2), (HX_m (HX_c hH (by omega) fr2551) hg2556_12 hg2556_13 hg2556_14), hq9.1, (by rw [show (w2551 1).toInt = (w 1).toInt by omega]; exact hU), (HT_m (HT_c hT (by omega) (fun i9 h9 => (fr2551 i9 h9).1)) hg2556_15), (pm_eqI (by have q9 := congrArg Int32.toInt h5; omega))⟩ (by omega) (by omega)
end
end
section
section
variable {l : Launch} {g : pm_G} {b L : Nat} {xs : Nat → Int32} {J : pm_J} {xo h : Nat}
set_option maxRecDepth 100000 in
set_option maxHeartbeats 4000000 in
theorem lx_loop (hC : pm_Cl l g (lw_ro b L xs) 7 600000 7302250 lw_Rt bk_L_law J) (hL : L ≤ 3072) {c0 s0 : Nat} (hc0 : c0 + 2052 ≤ 600000) (hs0 : s0 + 248805 ≤ 7302250) : ∀ (n : Nat) (i : Int32) (E : Nat) (A : pm_H) (c s : Nat), i.toInt = 6 * (E : Int) → E ≤ 512 → LX g xo h E A → c ≤ c0 + 4 * E → s ≤ s0 + 485 * E → 600 - (E : Int) < n → J 18 [some (.ref b), some (.ref xo), some (.ref h), some (.int i)] [] A c s := by
  intro n
  induction n with
  | zero => intro i E A c s h1 h2 h3 h4 h5 h6; omega
  | succ n ih =>
    intro i E A c s h1 h2 h3 h4 h5 h6
    have hro : lw_ro b L xs b = some (L, xs) := if_pos rfl
    have hN := nI_toInt (n := L) (by omega)
    refine hC.1 1 18 _ _ rfl _ _ _ _ _ ?_
    refine Exists.intro _ (Exists.intro _ (And.intro (Or.inr hro) ?_))
    intro m em
    have e1 : m.toInt = (L : Int) - 6 := by rw [em, pm_subc _ _ 6 rfl (by omega) (by omega), hN]
    refine And.intro (fun c9 => ?_) (fun c9 => ?_)
    · refine hC.1 68 2569 _ _ rfl _ _ _ _ _ ?_
      exact ⟨rfl, fun _ => Or.inr rfl, by omega, by omega, rfl⟩
    · have cont : ∀ (A' : pm_H) (c' s' : Nat), LX g xo h (E + 1) A' → c' ≤ c + 4 → s' ≤ s + 485 → J 2563 [some (.ref b), some (.ref xo), some (.ref h), some (.int i)] [] A' c' s' := by
        intro A' c' s' a1 a2 a3
        refine hC.1 67 2563 _ _ rfl _ _ _ _ _ ?_
        intro m2 em2
        have e2 : m2.toInt = i.toInt + 6 := by rw [em2]; exact pm_addc _ _ 6 rfl (by omega) (by omega)
        exact ih m2 (E + 1) A' c' s' (by omega) (by omega) a1 (by omega) (by omega) (by omega)
      refine Exists.intro _ (Exists.intro _ (And.intro (Or.inr hro) (And.intro (by omega) ?_)))
      refine pm_swc 65 rfl (by decide) ?_ ?_
      · intro _
        exact cont A c s (LX_mono (by omega) h3) (by omega) (by omega)
      · intro i9 hi9 he9
        clear he9
        match i9, hi9 with
        | 0, _ => exact lx_b2 hC (by omega) hL (by omega) h3 (by omega) (by omega) cont
        | 1, _ => exact lx_b3 hC (by omega) hL (by omega) h3 (by omega) (by omega) cont
        | 2, _ => exact lx_b4 hC (by omega) hL (by omega) h3 (by omega) (by omega) cont
        | 3, _ => exact lx_b5 hC (by omega) hL (by omega) h3 (by omega) (by omega) cont
        | 4, _ => exact lx_b6 hC (by omega) hL (by omega) h3 (by omega) (by omega) cont
        | 5, _ => exact lx_b7 hC (by omega) hL (by omega) h3 (by omega) (by omega) cont
        | 6, _ => exact lx_b8 hC (by omega) hL (by omega) h3 (by omega) (by omega) cont
        | 7, _ => exact lx_b9 hC (by omega) hL (by omega) h3 (by omega) (by omega) cont
        | 8, _ => exact lx_b10 hC (by omega) hL (by omega) h3 (by omega) (by omega) cont
        | 9, _ => exact lx_b11 hC (by omega) hL (by omega) h3 (by omega) (by omega) cont
        | 10, _ => exact lx_b12 hC (by omega) hL (by omega) h3 (by omega) (by omega) cont
        | 11, _ => exact lx_b13 hC (by omega) hL (by omega) h3 (by omega) (by omega) cont
        | 12, _ => exact lx_b14 hC (by omega) hL (by omega) h3 (by omega) (by omega) cont
        | 13, _ => exact lx_b15 hC (by omega) hL (by omega) h3 (by omega) (by omega) cont
        | 14, _ => exact lx_b16 hC (by omega) hL (by omega) h3 (by omega) (by omega) cont
        | 15, _ => exact lx_b17 hC (by omega) hL (by omega) h3 (by omega) (by omega) cont
        | 16, _ => exact lx_b18 hC (by omega) hL (by omega) h3 (by omega) (by omega) cont
        | 17, _ => exact lx_b19 hC (by omega) hL (by omega) h3 (by omega) (by omega) cont
        | 18, _ => exact lx_b20 hC (by omega) hL (by omega) h3 (by omega) (by omega) cont
        | 19, _ => exact lx_b21 hC (by omega) hL (by omega) h3 (by omega) (by omega) cont
        | 20, _ => exact lx_b22 hC (by omega) hL (by omega) h3 (by omega) (by omega) cont
        | 21, _ => exact lx_b23 hC (by omega) hL (by omega) h3 (by omega) (by omega) cont
        | 22, _ => exact lx_b24 hC (by omega) hL (by omega) h3 (by omega) (by omega) cont
        | 23, _ => exact lx_b25 hC (by omega) hL (by omega) h3 (by omega) (by omega) cont
        | 24, _ => exact lx_b26 hC (by omega) hL (by omega) h3 (by omega) (by omega) cont
        | 25, _ => exact lx_b27 hC (by omega) hL (by omega) h3 (by omega) (by omega) cont
        | 26, _ => exact lx_b28 hC (by omega) hL (by omega) h3 (by omega) (by omega) cont
        | 27, _ => exact lx_b29 hC (by omega) hL (by omega) h3 (by omega) (by omega) cont
        | 28, _ => exact lx_b30 hC (by omega) hL (by omega) h3 (by omega) (by omega) cont
        | 29, _ => exact lx_b31 hC (by omega) hL (by omega) h3 (by omega) (by omega) cont
        | 30, _ => exact lx_b32 hC (by omega) hL (by omega) h3 (by omega) (by omega) cont
        | 31, _ => exact lx_b33 hC (by omega) hL (by omega) h3 (by omega) (by omega) cont
        | 32, _ => exact lx_b34 hC (by omega) hL (by omega) h3 (by omega) (by omega) cont
        | 33, _ => exact lx_b35 hC (by omega) hL (by omega) h3 (by omega) (by omega) cont
        | 34, _ => exact lx_b36 hC (by omega) hL (by omega) h3 (by omega) (by omega) cont
        | 35, _ => exact lx_b37 hC (by omega) hL (by omega) h3 (by omega) (by omega) cont
        | 36, _ => exact lx_b38 hC (by omega) hL (by omega) h3 (by omega) (by omega) cont
        | 37, _ => exact lx_b39 hC (by omega) hL (by omega) h3 (by omega) (by omega) cont
        | 38, _ => exact lx_b40 hC (by omega) hL (by omega) h3 (by omega) (by omega) cont
        | 39, _ => exact lx_b41 hC (by omega) hL (by omega) h3 (by omega) (by omega) cont
        | 40, _ => exact lx_b42 hC (by omega) hL (by omega) h3 (by omega) (by omega) cont
        | 41, _ => exact lx_b43 hC (by omega) hL (by omega) h3 (by omega) (by omega) cont
        | 42, _ => exact lx_b44 hC (by omega) hL (by omega) h3 (by omega) (by omega) cont
        | 43, _ => exact lx_b45 hC (by omega) hL (by omega) h3 (by omega) (by omega) cont
        | 44, _ => exact lx_b46 hC (by omega) hL (by omega) h3 (by omega) (by omega) cont
        | 45, _ => exact lx_b47 hC (by omega) hL (by omega) h3 (by omega) (by omega) cont
        | 46, _ => exact lx_b48 hC (by omega) hL (by omega) h3 (by omega) (by omega) cont
        | 47, _ => exact lx_b49 hC (by omega) hL (by omega) h3 (by omega) (by omega) cont
        | 48, _ => exact lx_b50 hC (by omega) hL (by omega) h3 (by omega) (by omega) cont
        | 49, _ => exact lx_b51 hC (by omega) hL (by omega) h3 (by omega) (by omega) cont
        | 50, _ => exact lx_b52 hC (by omega) hL (by omega) h3 (by omega) (by omega) cont
        | 51, _ => exact lx_b53 hC (by omega) hL (by omega) h3 (by omega) (by omega) cont
        | 52, _ => exact lx_b54 hC (by omega) hL (by omega) h3 (by omega) (by omega) cont
        | 53, _ => exact lx_b55 hC (by omega) hL (by omega) h3 (by omega) (by omega) cont
        | 54, _ => exact lx_b56 hC (by omega) hL (by omega) h3 (by omega) (by omega) cont
        | 55, _ => exact lx_b57 hC (by omega) hL (by omega) h3 (by omega) (by omega) cont
        | 56, _ => exact lx_b58 hC (by omega) hL (by omega) h3 (by omega) (by omega) cont
        | 57, _ => exact lx_b59 hC (by omega) hL (by omega) h3 (by omega) (by omega) cont
        | 58, _ => exact lx_b60 hC (by omega) hL (by omega) h3 (by omega) (by omega) cont
        | 59, _ => exact lx_b61 hC (by omega) hL (by omega) h3 (by omega) (by omega) cont
        | 60, _ => exact lx_b62 hC (by omega) hL (by omega) h3 (by omega) (by omega) cont
        | 61, _ => exact lx_b63 hC (by omega) hL (by omega) h3 (by omega) (by omega) cont
        | 62, _ => exact lx_b64 hC (by omega) hL (by omega) h3 (by omega) (by omega) cont
        | 63, _ => exact lx_b65 hC (by omega) hL (by omega) h3 (by omega) (by omega) cont
        | 64, _ => exact lx_b66 hC (by omega) hL (by omega) h3 (by omega) (by omega) cont
        | k + 65, hk => exact absurd hk (by omega)
end
end
section
section
variable {l : Launch} {g : pm_G} {b L : Nat} {xs : Nat → Int32} {J : pm_J}
set_option maxRecDepth 100000 in
set_option maxHeartbeats 4000000 in
theorem lx_body (hC : pm_Cl l g (lw_ro b L xs) 7 600000 7302250 lw_Rt bk_L_law J) (hL : L ≤ 3072) : J 0 (pm_l0 4 [.ref b]) [] (fun _ => none) 0 0 := by
  refine hC.1 0 0 _ _ rfl _ _ _ _ _ ?_
  refine And.intro rfl (fun x hx => ?_)
  have nd0 : (List.map Prod.fst ((x, pm_ob 10 (pm_df 10)) :: [])).Nodup := List.nodup_cons.mpr ⟨List.not_mem_nil, List.nodup_nil⟩
  refine Exists.intro _ (Exists.intro _ (Exists.intro _ (Exists.intro _ (And.intro (ci_X10_q (A := fun _ => none) nd0) (And.intro rfl (fun r9 A9 h9 => ?_))))))
  obtain ⟨rfl, q, hq0, rfl, hD, hfr⟩ := h9
  refine And.intro rfl (fun h hh => ?_)
  have nd2 : (List.map Prod.fst ((h, pm_ob 11 (pm_df 11)) :: [])).Nodup := List.nodup_cons.mpr ⟨List.not_mem_nil, List.nodup_nil⟩
  refine Exists.intro _ (Exists.intro _ (Exists.intro _ (Exists.intro _ (And.intro (ci_X11_init (A := cw (fun _ => none) g 1 40 40 q (fun _ => 0) cw_e0 (fun _ => 0) (fun _ _ => 0)) nd2) (And.intro rfl (fun r9 A9 h9 => ?_))))))
  obtain ⟨rfl, a1, a4, a7, a10, a13, a16, a19, a22, a25, a28, a31, a34, a37, a40, a43, a46, a49, a52, a55, a58, fw, rfl, nd3, hfw, g0, g1, g2, g3, g4, g5, g6, g7, g8, g9, g10, g11, g12, g13, g14, g15, g16, g17, g18, g19⟩ := h9
  obtain ⟨mq, hmd, D, -, hmf⟩ := md_init_of (A := cw (fun _ => none) g 1 40 40 q (fun _ => 0) cw_e0 (fun _ => 0) (fun _ _ => 0)) (ws := []) (g := g) nd3 g0 g1 g2 g3 g4 g5 g6 g7 g8 g9 g10 g11 g12 g13 g14 g15 g16 g17 g18 g19
  rw [hmd]
  have n1 := (gw_none hh).1
  have n2 : ∀ j, j < 20 → ∀ i, i < 44 → mq j ≠ q i := fun j hj => (gw_none (hmf j hj)).1
  have dj : ∀ i, i < 40 + 4 * 1 → q i ≠ h ∧ ∀ j, j < 20 → q i ≠ mq j := fun i hi => ⟨(n1 i hi).symm, fun j hj => (n2 j hj i hi).symm⟩
  have hLW : LX g x h 0 (md (al (cw (fun _ => none) g 1 40 40 q (fun _ => 0) cw_e0 (fun _ => 0) (fun _ _ => 0)) []) g h mq (fun _ => 0) (md_f0 fw)) :=
    ⟨fun _ => none, 1, 40, 40, q, fun _ => 0, cw_e0, fun _ => 0, fun _ _ => 0, mq, fun _ => 0, md_f0 fw, [], (cw_md D dj).symm, hq0, cw_I0 hD, cw_S0, D, md_V0, md_F0 fw, dj, fun j hj => by
      have e1 : cw_e0 15 j = 1 := by unfold cw_e0; rw [if_pos rfl, if_pos hj]
      have e2 : md_f0 fw 2 j = fw j := rfl
      rw [e1, e2, hfw j hj], by decide, by decide, rp_0 rfl, rp_0 rfl, rfl, rfl, by decide, fun _ h9 => absurd h9 List.not_mem_nil, fun j hj => (by have h9 : (j : Int) < 0 := hj; omega), HX_0 rfl rfl, ⟨rfl, fun j hj => (by have h9 : (j : Int) < 0 := hj; omega)⟩, ⟨List.nodup_nil, fun _ h9 => absurd h9 List.not_mem_nil⟩, HT_0, rfl⟩
  exact lx_loop hC hL (c0 := 65) (s0 := 20325) (by omega) (by omega) 601 0 0 _ _ _ rfl (by omega) hLW (by decide) (by decide) (by omega)
end
end
section
/-! THE CLAIM OUT OF ONE WALK OF THE LAW'S BODY. Your part is whole_start (and what it stands on); all else here is the same for every law, but numbers. -/
noncomputable def R_law : String := "SpanColoursLaw"
noncomputable def lw_P (b : Addr) (xs : List Int32) (args : Array Value) (s : State) : Prop := args = #[.ref b] ∧ s.IntsAt b xs ∧ xs.length ≤ 3072 ∧ (Jvm.Cond.and given_1 narrow_1).before args s = true
noncomputable def lw_Q (_ : Array Value) (s : State) (o : Outcome) (t : State) : Prop := o = .returned (some (.int 1)) ∧ Framed s o t [] 600000 7302250
noncomputable def lw_Z (below : List Frame) (a : Array Value) (s : State) : State → Prop := fun t => ∃ o, t.status = .running ∧ Ended t below o ∧ lw_Q a s o t
/-- the law's own end, with 1 on the stack, nothing written that was there before, its room as the claim has it -/
theorem lw_ret {p : Program} {l : Launch} {e : Env} {s : State} {m : MethodId} {below : List Frame} {meth : Method} {c : Code} {b : Nat} (hx : p.tables.exec = Jvm.exec) (hb : c.code = code) (hr : meth.sig.returnType = ret) (hlocks : meth.locks = false) {pc : Nat} {H : Heap} {ls : Array Slot} (hdg : decode code pc = .ok (.ireturn, 1)) : W p l e room_1 s m #[Value.ref b] below meth c H [] 600000 7302250 (lw_Z below #[Value.ref b] s) (F0 m pc ls [.int 1]) := by
  intro T hT X
  obtain ⟨fs, hret, hrun, hended, hW, hframe⟩ := X.leave (v := some (.int 1)) (hlocks := hlocks) (fun h => by rw [hr] at h; cases h)
  have hmeth' : T.vm.method? m = some meth := X.method'
  refine ⟨T.setFrames fs, ?_, .returned (some (.int 1)), hrun, hended, rfl, ⟨_, rfl⟩, hW, hframe⟩
  jvm_step X.here [X.here.top, hx, hb, hdg, hmeth', hr, ret, narrow_b1]
  (try refine ⟨rfl, ?_⟩); (try refine ⟨rfl, ?_⟩)
  first | (intro acts; rw [hret _ acts rfl rfl rfl]) | rw [hret _ _ rfl rfl rfl]
  exact Steps.refl _
/-- what holds at the law's entry: the machine, the code, the tables' words (any of lw_tbl by 'hts w (by decide +kernel)'), the script of L ints xs at the cell b, what the Statement gives of the start (any of its parts by flat_of_before) -/
noncomputable def lw_At (p : Program) (s : State) (m : MethodId) (meth : Method) (c : Code) (b L : Nat) (xs : Nat → Int32) : Prop :=
  p.tables.exec = Jvm.exec ∧ c.code = code ∧ meth.sig.returnType = ret ∧ c.maxLocals = 4 ∧ s.vm.findClass R_law = some m.cls ∧ (∀ w ∈ lw_tbl, w.before #[Value.ref b] s = true) ∧ va_X b L xs s s.heap ∧ b < s.heap.size ∧ meth.locks = false ∧ (Jvm.Cond.and given_1 narrow_1).before #[Value.ref b] s = true
end
section
theorem lw_lit {w : Cond} {i : Nat} (h : lw_tbl[i]? = some w) : w ∈ lw_tbl := List.mem_of_getElem? h
set_option maxRecDepth 100000 in
theorem lw_ao7 : Cond.arrayOver (.object RX7) ∈ lw_tbl := lw_lit (i := 97) (by decide +kernel)
set_option maxRecDepth 100000 in
theorem lw_aoi : Cond.arrayOver (.array .int) ∈ lw_tbl := lw_lit (i := 332) (by decide +kernel)
theorem lw_K {s : State} {args : Array Value} (hts : ∀ w ∈ lw_tbl, w.before args s = true) : ∃ g : pm_G, pm_K g s := by
  have htsW : ∀ w ∈ pm_W, w.before args s = true := fun w hw => hts w (List.mem_filter.mp hw).1
  have known : ∀ ci, ci < 12 → ∃ (cC : ClassId) (iS : Nat → Nat), u_Kn s (pm_cT ci).1 (pm_cT ci).2.1 (pm_cT ci).2.2 cC iS := fun ci h => u_known (ws := pm_W) htsW (pm_u_ok ci h) (htsW _ (pm_ci_ok ci h).1)
  obtain ⟨dC, dI, hKc⟩ : ∃ (dC : Nat → ClassId) (dI : Nat → Nat → Nat), ∀ ci, ci < 12 → u_Kn s (pm_cT ci).1 (pm_cT ci).2.1 (pm_cT ci).2.2 (dC ci) (dI ci) :=
    ⟨fun ci => if h : ci < 12 then (known ci h).choose else (known 0 (by decide)).choose, fun ci => if h : ci < 12 then (known ci h).choose_spec.choose else fun _ => 0, fun ci h => by
      simp only [dif_pos h]
      exact (known ci h).choose_spec.choose_spec⟩
  obtain ⟨cA, kA, comp, f1, f2, f3⟩ := Cond.arrayClass_spec (htsW _ pm_arc)
  obtain ⟨compR, cR, kR, r1, _, r3, r4, r5⟩ := Cond.arrayOver_spec (hts _ lw_ao7)
  obtain ⟨compM, cM, kM, m1, m2, m3, m4⟩ := Cond.arrayOver_specA (hts _ lw_aoi)
  refine ⟨((dC, dI), (cA, cR, cM)), ⟨fun k q hq => ?_, fun k q hk => ?_⟩, va_AO.of (hts _ lw_ao7), hts _ lw_aoi, fun q hq => ?_⟩
  · have hk : k < 12 := by
      have := (List.getElem?_eq_some_iff.mp hq).1
      simpa using this
    have hq2 : q = pm_cT k := by
      unfold pm_cT
      rw [List.getD_eq_getElem?_getD, hq]
      rfl
    rw [hq2]
    exact hKc k hk
  · have hk3 : k < 3 := (List.getElem?_eq_some_iff.mp hk).1
    rcases (show k = 0 ∨ k = 1 ∨ k = 2 by omega) with rfl | rfl | rfl
    · cases hk
      exact ⟨fun N z => ⟨(fun k h => by cases h), kA, f2, comp, f3⟩, f1⟩
    · cases hk
      exact ⟨fun N z => ⟨(fun k h => by cases h), kR, r3, compR, r4⟩, kR, compR, r3, r4, r1, r5⟩
    · cases hk
      exact ⟨fun N z => ⟨(fun k h => by cases h), kM, m2, compM, m3⟩, m4⟩
  · exact va_Nw.of rfl (hts _ (pm_nl2_ok q hq).1)
set_option maxHeartbeats 4000000 in
set_option maxRecDepth 100000 in
theorem whole_start {p : Program} {e : Env} {s : State} {m : MethodId} {below : List Frame} {meth : Method} {c : Code} (l : Launch) (hflags : l.flags = flags0) {b L : Nat} {xs : Nat → Int32} (hL : L ≤ 3072) (C0 : lw_At p s m meth c b L xs) : W p l e room_1 s m #[Value.ref b] below meth c s.heap [] 0 0 (lw_Z below #[Value.ref b] s) (entryFrame m ([Value.ref b] : List Value).toArray 4) := by
  obtain ⟨hx, hb, hr, hml, hown, hts, hX, hbl, hlocks, hgv⟩ := C0
  obtain ⟨g, hK⟩ := lw_K hts
  have htsW : ∀ w ∈ pm_W, w.before #[Value.ref b] s = true := fun w hw => hts w (List.mem_filter.mp hw).1
  have C : pm_Cx p l e room_1 s m #[Value.ref b] below meth c (lw_Z below #[Value.ref b] s) g 12 4 false (some .boolean) cL_law (lw_ro b L xs) 7 600000 7302250 lw_Rt (fun q => s.heap.size ≤ q) := by
    refine ⟨hx, hb, hml, hown, htsW, hK, fun q h => h, ?_, (fun h => by cases h), ⟨by decide, by decide, Nat.le_refl _, Nat.le_refl _⟩, ?_⟩
    · intro b' n f h
      unfold lw_ro at h
      by_cases hb' : b' = b
      · rw [if_pos hb'] at h
        cases h
        subst hb'
        exact ⟨hbl, Nat.not_le.mpr hbl, hX⟩
      · rw [if_neg hb'] at h
        cases h
    · intro v A cells slots H locs ls pc ins hR hH hd hS hdg hk
      obtain ⟨h1, h2, rfl⟩ := hR
      rcases hk with ⟨rfl, x, hx1, _⟩ | ⟨_, hrt, _⟩ | ⟨_, ⟨nm, hrt⟩, _⟩ | ⟨_, hrt, _⟩
      · refine va_forget (fun q hq => hS.2.2 q hq) ?_
        refine W.widen h1 h2 ?_
        exact lw_ret hx hb hr hlocks hdg
      · cases hrt
      · cases hrt
      · cases hrt
  have K := lx_body (l := l) (g := g) (b := b) (L := L) (xs := xs) (J := pm_Sem p l e room_1 s m #[Value.ref b] below meth c (lw_Z below #[Value.ref b] s) g 4 (fun q => s.heap.size ≤ q)) ⟨fun k pc ops fin hk L' st A' c' s' h => pm_sound C fin ops pc L' st A' c' s' (by
      have hok := ok_L_law
      simp only [pm_oks, List.all_eq_true] at hok
      exact hok _ (List.mem_of_getElem? hk)) h, fun bs pc L' st A' c' s' h H locs ls a1 a2 a3 a4 => h H locs ls a1 a2 a3 (pm_lv_mask bs a4)⟩ hL
  have hl := lv_entry ([.ref b]) (n := 4) (Nat.le_of_ble_eq_true rfl)
  have hca : ∀ v ∈ ([Value.ref b] : List Value), v.category = 1 := fun v hv => by
    rw [List.mem_singleton.mp hv]; rfl
  have K2 := K s.heap [] _ (fun a e h => by cases h) (fun q h => absurd rfl h) va_S.rf (pm_lv_l0 hca hl)
  rw [← lg_entry_eq] at K2
  exact K2
end
