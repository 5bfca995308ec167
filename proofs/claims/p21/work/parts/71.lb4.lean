section
variable {l : Launch} {g : pm_G} {b L : Nat} {xs : Nat → Int32} {J : pm_J} {xo h : Nat}
set_option maxRecDepth 100000 in
set_option maxHeartbeats 2000000 in
theorem lx_b54 (hC : pm_Cl l g (lw_ro b L xs) 7 600000 7302250 lw_Rt bk_L_law J) {i : Int32} (hi : 0 ≤ i.toInt ∧ i.toInt + 6 ≤ L) (hL : L ≤ 3072) {E : Nat} (hE : E < 1000) {A : pm_H} {c s : Nat} (hA : LX g xo h E A) (hc : c + 4 ≤ 600000) (hs0 : s + 485 ≤ 7302250) (cont : ∀ (A' : pm_H) (c' s' : Nat), LX g xo h (E + 1) A' → c' ≤ c + 4 → s' ≤ s + 485 → J 2563 [some (.ref b), some (.ref xo), some (.ref h), some (.int i)] [] A' c' s') : J 2174 [some (.ref b), some (.ref xo), some (.ref h), some (.int i)] [] A c s := by
  obtain ⟨A00, K, nn, dn, q, w, e, v, f, mq, mv, mf, M, rfl, rfl, hI, hS, D, hv, hf, dj, hw, hE1, hE2, hR1, hR2, hg, he0, hN, hM, hB⟩ := hA
  have hu9 := hI.2.1
  unfold cw_W at hu9
  have hro : lw_ro b L xs b = some (L, xs) := if_pos rfl
  refine hC.1 54 2174 _ _ rfl _ _ _ _ _ ?_
  intro m1 em1
  have e1 : m1.toInt = i.toInt + 1 := by rw [em1]; exact pm_addc _ _ 1 rfl (by omega) (by omega)
  refine Exists.intro _ (Exists.intro _ (And.intro (Or.inr hro) (And.intro (by omega) ?_)))
  obtain ⟨a1, ha1⟩ : ∃ z9, z9 = xs m1.toInt.toNat := ⟨_, rfl⟩
  have m_a1 := em1
  rw [← ha1]
  refine And.intro (Exists.intro _ (cw_o0 hI.1)) (Exists.intro _ (Exists.intro _ (Exists.intro _ (Exists.intro _ (And.intro (c_X10_twin hI hS a1 ) (And.intro (lw_bnd rfl (by omega) (by omega) rfl) (fun r9 A9 h9 => ?_)))))))
  obtain ⟨v2180, f2180, rfl, hS2180, y2180, rfl, by2180⟩ := h9
  intro m2 em2
  have e2 : m2.toInt = i.toInt + 1 := by rw [em2]; exact pm_addc _ _ 1 rfl (by omega) (by omega)
  refine Exists.intro _ (Exists.intro _ (And.intro (Or.inr hro) (And.intro (by omega) ?_)))
  have ha1_2 : a1 = xs m2.toInt.toNat := by rw [ha1, em2, ← m_a1]
  rw [← ha1_2]
  rw [cw_md D dj]
  refine And.intro (Exists.intro _ (md_o)) (Exists.intro _ (Exists.intro _ (Exists.intro _ (Exists.intro _ (And.intro (F_X11_twin D mv mf hv hf a1 ) (And.intro (lw_bnd rfl (by omega) (by omega) rfl) (fun r9 A9 h9 => ?_)))))))
  obtain ⟨y2190, mv2190, mf2190, rfl, rfl, hv2190, hf2190, hx2190, hg2190_0, hg2190_1, by2190⟩ := h9
  exact cont _ _ _ ⟨A00, K, nn, dn, q, w, e, v2180, f2180, mq, mv2190, mf2190, M, (cw_md D dj).symm, rfl, hI, hS2180, D, hv2190, hf2190, dj, fun j hj => by rw [hx2190]; exact hw j hj, by omega, by omega, hR1, (rp_fr hR2 (by omega) hg2190_0 hg2190_1), (pm_eqI (by have q9 := congrArg Int32.toInt hg; omega)), (by omega), hN, hM, hB⟩ (by omega) (by omega)

set_option maxRecDepth 100000 in
set_option maxHeartbeats 2000000 in
theorem lx_b55 (hC : pm_Cl l g (lw_ro b L xs) 7 600000 7302250 lw_Rt bk_L_law J) {i : Int32} (hi : 0 ≤ i.toInt ∧ i.toInt + 6 ≤ L) (hL : L ≤ 3072) {E : Nat} (hE : E < 1000) {A : pm_H} {c s : Nat} (hA : LX g xo h E A) (hc : c + 4 ≤ 600000) (hs0 : s + 485 ≤ 7302250) (cont : ∀ (A' : pm_H) (c' s' : Nat), LX g xo h (E + 1) A' → c' ≤ c + 4 → s' ≤ s + 485 → J 2563 [some (.ref b), some (.ref xo), some (.ref h), some (.int i)] [] A' c' s') : J 2197 [some (.ref b), some (.ref xo), some (.ref h), some (.int i)] [] A c s := by
  obtain ⟨A00, K, nn, dn, q, w, e, v, f, mq, mv, mf, M, rfl, rfl, hI, hS, D, hv, hf, dj, hw, hE1, hE2, hR1, hR2, hg, he0, hN, hM, hB⟩ := hA
  have hu9 := hI.2.1
  unfold cw_W at hu9
  have hro : lw_ro b L xs b = some (L, xs) := if_pos rfl
  refine hC.1 55 2197 _ _ rfl _ _ _ _ _ ?_
  intro m1 em1
  have e1 : m1.toInt = i.toInt + 1 := by rw [em1]; exact pm_addc _ _ 1 rfl (by omega) (by omega)
  refine Exists.intro _ (Exists.intro _ (And.intro (Or.inr hro) (And.intro (by omega) ?_)))
  obtain ⟨a1, ha1⟩ : ∃ z9, z9 = xs m1.toInt.toNat := ⟨_, rfl⟩
  have m_a1 := em1
  rw [← ha1]
  intro m2 em2
  have e2 : m2.toInt = i.toInt + 2 := by rw [em2]; exact pm_addc _ _ 2 rfl (by omega) (by omega)
  refine Exists.intro _ (Exists.intro _ (And.intro (Or.inr hro) (And.intro (by omega) ?_)))
  obtain ⟨a2, ha2⟩ : ∃ z9, z9 = xs m2.toInt.toNat := ⟨_, rfl⟩
  have m_a2 := em2
  rw [← ha2]
  refine And.intro (Exists.intro _ (cw_o0 hI.1)) (Exists.intro _ (Exists.intro _ (Exists.intro _ (Exists.intro _ (And.intro (c_X10_parts hI hS a1 a2 ) (And.intro (lw_bnd rfl (by omega) (by omega) rfl) (fun r9 A9 h9 => ?_)))))))
  obtain ⟨v2208, f2208, rfl, hS2208, y2208, rfl, by2208⟩ := h9
  intro m3 em3
  have e3 : m3.toInt = i.toInt + 1 := by rw [em3]; exact pm_addc _ _ 1 rfl (by omega) (by omega)
  refine Exists.intro _ (Exists.intro _ (And.intro (Or.inr hro) (And.intro (by omega) ?_)))
  have ha1_3 : a1 = xs m3.toInt.toNat := by rw [ha1, em3, ← m_a1]
  rw [← ha1_3]
  intro m4 em4
  have e4 : m4.toInt = i.toInt + 2 := by rw [em4]; exact pm_addc _ _ 2 rfl (by omega) (by omega)
  refine Exists.intro _ (Exists.intro _ (And.intro (Or.inr hro) (And.intro (by omega) ?_)))
  have ha2_4 : a2 = xs m4.toInt.toNat := by rw [ha2, em4, ← m_a2]
  rw [← ha2_4]
  rw [cw_md D dj]
  refine And.intro (Exists.intro _ (md_o)) (Exists.intro _ (Exists.intro _ (Exists.intro _ (Exists.intro _ (And.intro (c_X11_parts D mv mf hv hf a1 a2 ) (And.intro (lw_bnd rfl (by omega) (by omega) rfl) (fun r9 A9 h9 => ?_)))))))
  obtain ⟨y2223, rfl, rfl, by2223⟩ := h9
  exact cont _ _ _ ⟨A00, K, nn, dn, q, w, e, v2208, f2208, mq, mv, mf, M, (cw_md D dj).symm, rfl, hI, hS2208, D, hv, hf, dj, fun j hj => by exact hw j hj, by omega, by omega, hR1, hR2, hg, (by omega), hN, hM, hB⟩ (by omega) (by omega)

set_option maxRecDepth 100000 in
set_option maxHeartbeats 2000000 in
theorem lx_b56 (hC : pm_Cl l g (lw_ro b L xs) 7 600000 7302250 lw_Rt bk_L_law J) {i : Int32} (hi : 0 ≤ i.toInt ∧ i.toInt + 6 ≤ L) (hL : L ≤ 3072) {E : Nat} (hE : E < 1000) {A : pm_H} {c s : Nat} (hA : LX g xo h E A) (hc : c + 4 ≤ 600000) (hs0 : s + 485 ≤ 7302250) (cont : ∀ (A' : pm_H) (c' s' : Nat), LX g xo h (E + 1) A' → c' ≤ c + 4 → s' ≤ s + 485 → J 2563 [some (.ref b), some (.ref xo), some (.ref h), some (.int i)] [] A' c' s') : J 2230 [some (.ref b), some (.ref xo), some (.ref h), some (.int i)] [] A c s := by
  obtain ⟨A00, K, nn, dn, q, w, e, v, f, mq, mv, mf, M, rfl, rfl, hI, hS, D, hv, hf, dj, hw, hE1, hE2, hR1, hR2, hg, he0, hN, hM, hB⟩ := hA
  have hu9 := hI.2.1
  unfold cw_W at hu9
  have hro : lw_ro b L xs b = some (L, xs) := if_pos rfl
  refine hC.1 56 2230 _ _ rfl _ _ _ _ _ ?_
  intro m1 em1
  have e1 : m1.toInt = i.toInt + 1 := by rw [em1]; exact pm_addc _ _ 1 rfl (by omega) (by omega)
  refine Exists.intro _ (Exists.intro _ (And.intro (Or.inr hro) (And.intro (by omega) ?_)))
  obtain ⟨a1, ha1⟩ : ∃ z9, z9 = xs m1.toInt.toNat := ⟨_, rfl⟩
  have m_a1 := em1
  rw [← ha1]
  intro m2 em2
  have e2 : m2.toInt = i.toInt + 2 := by rw [em2]; exact pm_addc _ _ 2 rfl (by omega) (by omega)
  refine Exists.intro _ (Exists.intro _ (And.intro (Or.inr hro) (And.intro (by omega) ?_)))
  obtain ⟨a2, ha2⟩ : ∃ z9, z9 = xs m2.toInt.toNat := ⟨_, rfl⟩
  have m_a2 := em2
  rw [← ha2]
  refine And.intro (Exists.intro _ (cw_o0 hI.1)) (Exists.intro _ (Exists.intro _ (Exists.intro _ (Exists.intro _ (And.intro (c_X10_best hI hS a1 a2 ) (And.intro (lw_bnd rfl (by omega) (by omega) rfl) (fun r9 A9 h9 => ?_)))))))
  obtain ⟨v2241, f2241, rfl, hS2241, y2241, rfl, by2241⟩ := h9
  intro m3 em3
  have e3 : m3.toInt = i.toInt + 1 := by rw [em3]; exact pm_addc _ _ 1 rfl (by omega) (by omega)
  refine Exists.intro _ (Exists.intro _ (And.intro (Or.inr hro) (And.intro (by omega) ?_)))
  have ha1_3 : a1 = xs m3.toInt.toNat := by rw [ha1, em3, ← m_a1]
  rw [← ha1_3]
  intro m4 em4
  have e4 : m4.toInt = i.toInt + 2 := by rw [em4]; exact pm_addc _ _ 2 rfl (by omega) (by omega)
  refine Exists.intro _ (Exists.intro _ (And.intro (Or.inr hro) (And.intro (by omega) ?_)))
  have ha2_4 : a2 = xs m4.toInt.toNat := by rw [ha2, em4, ← m_a2]
  rw [← ha2_4]
  rw [cw_md D dj]
  refine And.intro (Exists.intro _ (md_o)) (Exists.intro _ (Exists.intro _ (Exists.intro _ (Exists.intro _ (And.intro (F_X11_best D mv mf hv hf a1 a2 ) (And.intro (lw_bnd rfl (by omega) (by omega) rfl) (fun r9 A9 h9 => ?_)))))))
  obtain ⟨y2256, mv2256, mf2256, rfl, rfl, hv2256, hf2256, hx2256, hg2256_0, hg2256_1, by2256⟩ := h9
  exact cont _ _ _ ⟨A00, K, nn, dn, q, w, e, v2241, f2241, mq, mv2256, mf2256, M, (cw_md D dj).symm, rfl, hI, hS2241, D, hv2256, hf2256, dj, fun j hj => by rw [hx2256]; exact hw j hj, by omega, by omega, hR1, (rp_fr hR2 (by omega) hg2256_0 hg2256_1), (pm_eqI (by have q9 := congrArg Int32.toInt hg; omega)), (by omega), hN, hM, hB⟩ (by omega) (by omega)

set_option maxRecDepth 100000 in
set_option maxHeartbeats 2000000 in
theorem lx_b57 (hC : pm_Cl l g (lw_ro b L xs) 7 600000 7302250 lw_Rt bk_L_law J) {i : Int32} (hi : 0 ≤ i.toInt ∧ i.toInt + 6 ≤ L) (hL : L ≤ 3072) {E : Nat} (hE : E < 1000) {A : pm_H} {c s : Nat} (hA : LX g xo h E A) (hc : c + 4 ≤ 600000) (hs0 : s + 485 ≤ 7302250) (cont : ∀ (A' : pm_H) (c' s' : Nat), LX g xo h (E + 1) A' → c' ≤ c + 4 → s' ≤ s + 485 → J 2563 [some (.ref b), some (.ref xo), some (.ref h), some (.int i)] [] A' c' s') : J 2263 [some (.ref b), some (.ref xo), some (.ref h), some (.int i)] [] A c s := by
  obtain ⟨A00, K, nn, dn, q, w, e, v, f, mq, mv, mf, M, rfl, rfl, hI, hS, D, hv, hf, dj, hw, hE1, hE2, hR1, hR2, hg, he0, hN, hM, hB⟩ := hA
  have hu9 := hI.2.1
  unfold cw_W at hu9
  have hro : lw_ro b L xs b = some (L, xs) := if_pos rfl
  refine hC.1 57 2263 _ _ rfl _ _ _ _ _ ?_
  intro m1 em1
  have e1 : m1.toInt = i.toInt + 1 := by rw [em1]; exact pm_addc _ _ 1 rfl (by omega) (by omega)
  refine Exists.intro _ (Exists.intro _ (And.intro (Or.inr hro) (And.intro (by omega) ?_)))
  obtain ⟨a1, ha1⟩ : ∃ z9, z9 = xs m1.toInt.toNat := ⟨_, rfl⟩
  have m_a1 := em1
  rw [← ha1]
  intro m2 em2
  have e2 : m2.toInt = i.toInt + 2 := by rw [em2]; exact pm_addc _ _ 2 rfl (by omega) (by omega)
  refine Exists.intro _ (Exists.intro _ (And.intro (Or.inr hro) (And.intro (by omega) ?_)))
  obtain ⟨a2, ha2⟩ : ∃ z9, z9 = xs m2.toInt.toNat := ⟨_, rfl⟩
  have m_a2 := em2
  rw [← ha2]
  intro m3 em3
  have e3 : m3.toInt = i.toInt + 3 := by rw [em3]; exact pm_addc _ _ 3 rfl (by omega) (by omega)
  refine Exists.intro _ (Exists.intro _ (And.intro (Or.inr hro) (And.intro (by omega) ?_)))
  obtain ⟨a3, ha3⟩ : ∃ z9, z9 = xs m3.toInt.toNat := ⟨_, rfl⟩
  have m_a3 := em3
  rw [← ha3]
  refine And.intro (Exists.intro _ (cw_o0 hI.1)) (Exists.intro _ (Exists.intro _ (Exists.intro _ (Exists.intro _ (And.intro (c_X10_was hI hS a1 a2 a3 ) (And.intro (lw_bnd rfl (by omega) (by omega) rfl) (fun r9 A9 h9 => ?_)))))))
  obtain ⟨y2279, rfl, rfl, by2279⟩ := h9
  intro m4 em4
  have e4 : m4.toInt = i.toInt + 1 := by rw [em4]; exact pm_addc _ _ 1 rfl (by omega) (by omega)
  refine Exists.intro _ (Exists.intro _ (And.intro (Or.inr hro) (And.intro (by omega) ?_)))
  have ha1_4 : a1 = xs m4.toInt.toNat := by rw [ha1, em4, ← m_a1]
  rw [← ha1_4]
  intro m5 em5
  have e5 : m5.toInt = i.toInt + 2 := by rw [em5]; exact pm_addc _ _ 2 rfl (by omega) (by omega)
  refine Exists.intro _ (Exists.intro _ (And.intro (Or.inr hro) (And.intro (by omega) ?_)))
  have ha2_5 : a2 = xs m5.toInt.toNat := by rw [ha2, em5, ← m_a2]
  rw [← ha2_5]
  intro m6 em6
  have e6 : m6.toInt = i.toInt + 3 := by rw [em6]; exact pm_addc _ _ 3 rfl (by omega) (by omega)
  refine Exists.intro _ (Exists.intro _ (And.intro (Or.inr hro) (And.intro (by omega) ?_)))
  have ha3_6 : a3 = xs m6.toInt.toNat := by rw [ha3, em6, ← m_a3]
  rw [← ha3_6]
  rw [cw_md D dj]
  refine And.intro (Exists.intro _ (md_o)) (Exists.intro _ (Exists.intro _ (Exists.intro _ (Exists.intro _ (And.intro (c_X11_was D mv mf hv hf a1 a2 a3 ) (And.intro (lw_bnd rfl (by omega) (by omega) rfl) (fun r9 A9 h9 => ?_)))))))
  obtain ⟨y2299, rfl, rfl, by2299⟩ := h9
  exact cont _ _ _ ⟨A00, K, nn, dn, q, w, e, v, f, mq, mv, mf, M, (cw_md D dj).symm, rfl, hI, hS, D, hv, hf, dj, fun j hj => by exact hw j hj, by omega, by omega, hR1, hR2, hg, (by omega), hN, hM, hB⟩ (by omega) (by omega)

set_option maxRecDepth 100000 in
set_option maxHeartbeats 2000000 in
theorem lx_b58 (hC : pm_Cl l g (lw_ro b L xs) 7 600000 7302250 lw_Rt bk_L_law J) {i : Int32} (hi : 0 ≤ i.toInt ∧ i.toInt + 6 ≤ L) (hL : L ≤ 3072) {E : Nat} (hE : E < 1000) {A : pm_H} {c s : Nat} (hA : LX g xo h E A) (hc : c + 4 ≤ 600000) (hs0 : s + 485 ≤ 7302250) (cont : ∀ (A' : pm_H) (c' s' : Nat), LX g xo h (E + 1) A' → c' ≤ c + 4 → s' ≤ s + 485 → J 2563 [some (.ref b), some (.ref xo), some (.ref h), some (.int i)] [] A' c' s') : J 2306 [some (.ref b), some (.ref xo), some (.ref h), some (.int i)] [] A c s := by
  obtain ⟨A00, K, nn, dn, q, w, e, v, f, mq, mv, mf, M, rfl, rfl, hI, hS, D, hv, hf, dj, hw, hE1, hE2, hR1, hR2, hg, he0, hN, hM, hB⟩ := hA
  have hu9 := hI.2.1
  unfold cw_W at hu9
  have hro : lw_ro b L xs b = some (L, xs) := if_pos rfl
  refine hC.1 58 2306 _ _ rfl _ _ _ _ _ ?_
  intro m1 em1
  have e1 : m1.toInt = i.toInt + 1 := by rw [em1]; exact pm_addc _ _ 1 rfl (by omega) (by omega)
  refine Exists.intro _ (Exists.intro _ (And.intro (Or.inr hro) (And.intro (by omega) ?_)))
  obtain ⟨a1, ha1⟩ : ∃ z9, z9 = xs m1.toInt.toNat := ⟨_, rfl⟩
  have m_a1 := em1
  rw [← ha1]
  intro m2 em2
  have e2 : m2.toInt = i.toInt + 2 := by rw [em2]; exact pm_addc _ _ 2 rfl (by omega) (by omega)
  refine Exists.intro _ (Exists.intro _ (And.intro (Or.inr hro) (And.intro (by omega) ?_)))
  obtain ⟨a2, ha2⟩ : ∃ z9, z9 = xs m2.toInt.toNat := ⟨_, rfl⟩
  have m_a2 := em2
  rw [← ha2]
  intro m3 em3
  have e3 : m3.toInt = i.toInt + 3 := by rw [em3]; exact pm_addc _ _ 3 rfl (by omega) (by omega)
  refine Exists.intro _ (Exists.intro _ (And.intro (Or.inr hro) (And.intro (by omega) ?_)))
  obtain ⟨a3, ha3⟩ : ∃ z9, z9 = xs m3.toInt.toNat := ⟨_, rfl⟩
  have m_a3 := em3
  rw [← ha3]
  refine And.intro (Exists.intro _ (cw_o0 hI.1)) (Exists.intro _ (Exists.intro _ (Exists.intro _ (Exists.intro _ (And.intro (c_X10_counted hI hS a1 a2 a3 ) (And.intro (lw_bnd rfl (by omega) (by omega) rfl) (fun r9 A9 h9 => ?_)))))))
  obtain ⟨v2322, f2322, rfl, hS2322, y2322, rfl, by2322⟩ := h9
  intro m4 em4
  have e4 : m4.toInt = i.toInt + 1 := by rw [em4]; exact pm_addc _ _ 1 rfl (by omega) (by omega)
  refine Exists.intro _ (Exists.intro _ (And.intro (Or.inr hro) (And.intro (by omega) ?_)))
  have ha1_4 : a1 = xs m4.toInt.toNat := by rw [ha1, em4, ← m_a1]
  rw [← ha1_4]
  intro m5 em5
  have e5 : m5.toInt = i.toInt + 2 := by rw [em5]; exact pm_addc _ _ 2 rfl (by omega) (by omega)
  refine Exists.intro _ (Exists.intro _ (And.intro (Or.inr hro) (And.intro (by omega) ?_)))
  have ha2_5 : a2 = xs m5.toInt.toNat := by rw [ha2, em5, ← m_a2]
  rw [← ha2_5]
  intro m6 em6
  have e6 : m6.toInt = i.toInt + 3 := by rw [em6]; exact pm_addc _ _ 3 rfl (by omega) (by omega)
  refine Exists.intro _ (Exists.intro _ (And.intro (Or.inr hro) (And.intro (by omega) ?_)))
  have ha3_6 : a3 = xs m6.toInt.toNat := by rw [ha3, em6, ← m_a3]
  rw [← ha3_6]
  rw [cw_md D dj]
  refine And.intro (Exists.intro _ (md_o)) (Exists.intro _ (Exists.intro _ (Exists.intro _ (Exists.intro _ (And.intro (c_X11_counted D mv mf hv hf a1 a2 a3 ) (And.intro (lw_bnd rfl (by omega) (by omega) rfl) (fun r9 A9 h9 => ?_)))))))
  obtain ⟨y2342, rfl, rfl, by2342⟩ := h9
  exact cont _ _ _ ⟨A00, K, nn, dn, q, w, e, v2322, f2322, mq, mv, mf, M, (cw_md D dj).symm, rfl, hI, hS2322, D, hv, hf, dj, fun j hj => by exact hw j hj, by omega, by omega, hR1, hR2, hg, (by omega), hN, hM, hB⟩ (by omega) (by omega)

set_option maxRecDepth 100000 in
set_option maxHeartbeats 2000000 in
theorem lx_b59 (hC : pm_Cl l g (lw_ro b L xs) 7 600000 7302250 lw_Rt bk_L_law J) {i : Int32} (hi : 0 ≤ i.toInt ∧ i.toInt + 6 ≤ L) (hL : L ≤ 3072) {E : Nat} (hE : E < 1000) {A : pm_H} {c s : Nat} (hA : LX g xo h E A) (hc : c + 4 ≤ 600000) (hs0 : s + 485 ≤ 7302250) (cont : ∀ (A' : pm_H) (c' s' : Nat), LX g xo h (E + 1) A' → c' ≤ c + 4 → s' ≤ s + 485 → J 2563 [some (.ref b), some (.ref xo), some (.ref h), some (.int i)] [] A' c' s') : J 2349 [some (.ref b), some (.ref xo), some (.ref h), some (.int i)] [] A c s := by
  obtain ⟨A00, K, nn, dn, q, w, e, v, f, mq, mv, mf, M, rfl, rfl, hI, hS, D, hv, hf, dj, hw, hE1, hE2, hR1, hR2, hg, he0, hN, hM, hB⟩ := hA
  have hu9 := hI.2.1
  unfold cw_W at hu9
  have hro : lw_ro b L xs b = some (L, xs) := if_pos rfl
  refine hC.1 59 2349 _ _ rfl _ _ _ _ _ ?_
  intro m1 em1
  have e1 : m1.toInt = i.toInt + 1 := by rw [em1]; exact pm_addc _ _ 1 rfl (by omega) (by omega)
  refine Exists.intro _ (Exists.intro _ (And.intro (Or.inr hro) (And.intro (by omega) ?_)))
  obtain ⟨a1, ha1⟩ : ∃ z9, z9 = xs m1.toInt.toNat := ⟨_, rfl⟩
  have m_a1 := em1
  rw [← ha1]
  refine And.intro (Exists.intro _ (cw_o0 hI.1)) (Exists.intro _ (Exists.intro _ (Exists.intro _ (Exists.intro _ (And.intro (c_X10_touched hI hS a1 ) (And.intro (lw_bnd rfl (by omega) (by omega) rfl) (fun r9 A9 h9 => ?_)))))))
  obtain ⟨y2355, rfl, rfl, by2355⟩ := h9
  intro m2 em2
  have e2 : m2.toInt = i.toInt + 1 := by rw [em2]; exact pm_addc _ _ 1 rfl (by omega) (by omega)
  refine Exists.intro _ (Exists.intro _ (And.intro (Or.inr hro) (And.intro (by omega) ?_)))
  have ha1_2 : a1 = xs m2.toInt.toNat := by rw [ha1, em2, ← m_a1]
  rw [← ha1_2]
  rw [cw_md D dj]
  refine And.intro (Exists.intro _ (md_o)) (Exists.intro _ (Exists.intro _ (Exists.intro _ (Exists.intro _ (And.intro (c_X11_touched D mv mf hv hf a1 ) (And.intro (lw_bnd rfl (by omega) (by omega) rfl) (fun r9 A9 h9 => ?_)))))))
  obtain ⟨y2365, rfl, rfl, by2365⟩ := h9
  exact cont _ _ _ ⟨A00, K, nn, dn, q, w, e, v, f, mq, mv, mf, M, (cw_md D dj).symm, rfl, hI, hS, D, hv, hf, dj, fun j hj => by exact hw j hj, by omega, by omega, hR1, hR2, hg, (by omega), hN, hM, hB⟩ (by omega) (by omega)

set_option maxRecDepth 100000 in
set_option maxHeartbeats 2000000 in
theorem lx_b60 (hC : pm_Cl l g (lw_ro b L xs) 7 600000 7302250 lw_Rt bk_L_law J) {i : Int32} (hi : 0 ≤ i.toInt ∧ i.toInt + 6 ≤ L) (hL : L ≤ 3072) {E : Nat} (hE : E < 1000) {A : pm_H} {c s : Nat} (hA : LX g xo h E A) (hc : c + 4 ≤ 600000) (hs0 : s + 485 ≤ 7302250) (cont : ∀ (A' : pm_H) (c' s' : Nat), LX g xo h (E + 1) A' → c' ≤ c + 4 → s' ≤ s + 485 → J 2563 [some (.ref b), some (.ref xo), some (.ref h), some (.int i)] [] A' c' s') : J 2372 [some (.ref b), some (.ref xo), some (.ref h), some (.int i)] [] A c s := by
  obtain ⟨A00, K, nn, dn, q, w, e, v, f, mq, mv, mf, M, rfl, rfl, hI, hS, D, hv, hf, dj, hw, hE1, hE2, hR1, hR2, hg, he0, hN, hM, hB⟩ := hA
  have hu9 := hI.2.1
  unfold cw_W at hu9
  have hro : lw_ro b L xs b = some (L, xs) := if_pos rfl
  refine hC.1 60 2372 _ _ rfl _ _ _ _ _ ?_
  intro m1 em1
  have e1 : m1.toInt = i.toInt + 1 := by rw [em1]; exact pm_addc _ _ 1 rfl (by omega) (by omega)
  refine Exists.intro _ (Exists.intro _ (And.intro (Or.inr hro) (And.intro (by omega) ?_)))
  obtain ⟨a1, ha1⟩ : ∃ z9, z9 = xs m1.toInt.toNat := ⟨_, rfl⟩
  have m_a1 := em1
  rw [← ha1]
  refine And.intro (Exists.intro _ (cw_o0 hI.1)) (Exists.intro _ (Exists.intro _ (Exists.intro _ (Exists.intro _ (And.intro (c_X10_since hI hS a1 ) (And.intro (lw_bnd rfl (by omega) (by omega) rfl) (fun r9 A9 h9 => ?_)))))))
  obtain ⟨y2378, rfl, rfl, by2378⟩ := h9
  intro m2 em2
  have e2 : m2.toInt = i.toInt + 1 := by rw [em2]; exact pm_addc _ _ 1 rfl (by omega) (by omega)
  refine Exists.intro _ (Exists.intro _ (And.intro (Or.inr hro) (And.intro (by omega) ?_)))
  have ha1_2 : a1 = xs m2.toInt.toNat := by rw [ha1, em2, ← m_a1]
  rw [← ha1_2]
  rw [cw_md D dj]
  refine And.intro (Exists.intro _ (md_o)) (Exists.intro _ (Exists.intro _ (Exists.intro _ (Exists.intro _ (And.intro (c_X11_since D mv mf hv hf a1 ) (And.intro (lw_bnd rfl (by omega) (by omega) rfl) (fun r9 A9 h9 => ?_)))))))
  obtain ⟨y2388, rfl, rfl, by2388⟩ := h9
  exact cont _ _ _ ⟨A00, K, nn, dn, q, w, e, v, f, mq, mv, mf, M, (cw_md D dj).symm, rfl, hI, hS, D, hv, hf, dj, fun j hj => by exact hw j hj, by omega, by omega, hR1, hR2, hg, (by omega), hN, hM, hB⟩ (by omega) (by omega)

set_option maxRecDepth 100000 in
set_option maxHeartbeats 2000000 in
theorem lx_b61 (hC : pm_Cl l g (lw_ro b L xs) 7 600000 7302250 lw_Rt bk_L_law J) {i : Int32} (hi : 0 ≤ i.toInt ∧ i.toInt + 6 ≤ L) (hL : L ≤ 3072) {E : Nat} (hE : E < 1000) {A : pm_H} {c s : Nat} (hA : LX g xo h E A) (hc : c + 4 ≤ 600000) (hs0 : s + 485 ≤ 7302250) (cont : ∀ (A' : pm_H) (c' s' : Nat), LX g xo h (E + 1) A' → c' ≤ c + 4 → s' ≤ s + 485 → J 2563 [some (.ref b), some (.ref xo), some (.ref h), some (.int i)] [] A' c' s') : J 2395 [some (.ref b), some (.ref xo), some (.ref h), some (.int i)] [] A c s := by
  obtain ⟨A00, K, nn, dn, q, w, e, v, f, mq, mv, mf, M, rfl, rfl, hI, hS, D, hv, hf, dj, hw, hE1, hE2, hR1, hR2, hg, he0, hN, hM, hB⟩ := hA
  have hu9 := hI.2.1
  unfold cw_W at hu9
  have hro : lw_ro b L xs b = some (L, xs) := if_pos rfl
  refine hC.1 61 2395 _ _ rfl _ _ _ _ _ ?_
  intro m1 em1
  have e1 : m1.toInt = i.toInt + 1 := by rw [em1]; exact pm_addc _ _ 1 rfl (by omega) (by omega)
  refine Exists.intro _ (Exists.intro _ (And.intro (Or.inr hro) (And.intro (by omega) ?_)))
  obtain ⟨a1, ha1⟩ : ∃ z9, z9 = xs m1.toInt.toNat := ⟨_, rfl⟩
  have m_a1 := em1
  rw [← ha1]
  intro m2 em2
  have e2 : m2.toInt = i.toInt + 2 := by rw [em2]; exact pm_addc _ _ 2 rfl (by omega) (by omega)
  refine Exists.intro _ (Exists.intro _ (And.intro (Or.inr hro) (And.intro (by omega) ?_)))
  obtain ⟨a2, ha2⟩ : ∃ z9, z9 = xs m2.toInt.toNat := ⟨_, rfl⟩
  have m_a2 := em2
  rw [← ha2]
  refine And.intro (Exists.intro _ (cw_o0 hI.1)) (Exists.intro _ (Exists.intro _ (Exists.intro _ (Exists.intro _ (And.intro (c_X10_changed hI hS a1 a2 ) (And.intro (lw_bnd rfl (by omega) (by omega) rfl) (fun r9 A9 h9 => ?_)))))))
  obtain ⟨y2406, rfl, rfl, by2406⟩ := h9
  intro m3 em3
  have e3 : m3.toInt = i.toInt + 1 := by rw [em3]; exact pm_addc _ _ 1 rfl (by omega) (by omega)
  refine Exists.intro _ (Exists.intro _ (And.intro (Or.inr hro) (And.intro (by omega) ?_)))
  have ha1_3 : a1 = xs m3.toInt.toNat := by rw [ha1, em3, ← m_a1]
  rw [← ha1_3]
  intro m4 em4
  have e4 : m4.toInt = i.toInt + 2 := by rw [em4]; exact pm_addc _ _ 2 rfl (by omega) (by omega)
  refine Exists.intro _ (Exists.intro _ (And.intro (Or.inr hro) (And.intro (by omega) ?_)))
  have ha2_4 : a2 = xs m4.toInt.toNat := by rw [ha2, em4, ← m_a2]
  rw [← ha2_4]
  rw [cw_md D dj]
  refine And.intro (Exists.intro _ (md_o)) (Exists.intro _ (Exists.intro _ (Exists.intro _ (Exists.intro _ (And.intro (c_X11_changed D mv mf hv hf a1 a2 ) (And.intro (lw_bnd rfl (by omega) (by omega) rfl) (fun r9 A9 h9 => ?_)))))))
  obtain ⟨y2421, rfl, rfl, by2421⟩ := h9
  exact cont _ _ _ ⟨A00, K, nn, dn, q, w, e, v, f, mq, mv, mf, M, (cw_md D dj).symm, rfl, hI, hS, D, hv, hf, dj, fun j hj => by exact hw j hj, by omega, by omega, hR1, hR2, hg, (by omega), hN, hM, hB⟩ (by omega) (by omega)

set_option maxRecDepth 100000 in
set_option maxHeartbeats 2000000 in
theorem lx_b62 (hC : pm_Cl l g (lw_ro b L xs) 7 600000 7302250 lw_Rt bk_L_law J) {i : Int32} (hi : 0 ≤ i.toInt ∧ i.toInt + 6 ≤ L) (hL : L ≤ 3072) {E : Nat} (hE : E < 1000) {A : pm_H} {c s : Nat} (hA : LX g xo h E A) (hc : c + 4 ≤ 600000) (hs0 : s + 485 ≤ 7302250) (cont : ∀ (A' : pm_H) (c' s' : Nat), LX g xo h (E + 1) A' → c' ≤ c + 4 → s' ≤ s + 485 → J 2563 [some (.ref b), some (.ref xo), some (.ref h), some (.int i)] [] A' c' s') : J 2428 [some (.ref b), some (.ref xo), some (.ref h), some (.int i)] [] A c s := by
  obtain ⟨A00, K, nn, dn, q, w, e, v, f, mq, mv, mf, M, rfl, rfl, hI, hS, D, hv, hf, dj, hw, hE1, hE2, hR1, hR2, hg, he0, hN, hM, hB⟩ := hA
  have hu9 := hI.2.1
  unfold cw_W at hu9
  have hro : lw_ro b L xs b = some (L, xs) := if_pos rfl
  refine hC.1 62 2428 _ _ rfl _ _ _ _ _ ?_
  intro m1 em1
  have e1 : m1.toInt = i.toInt + 1 := by rw [em1]; exact pm_addc _ _ 1 rfl (by omega) (by omega)
  refine Exists.intro _ (Exists.intro _ (And.intro (Or.inr hro) (And.intro (by omega) ?_)))
  obtain ⟨a1, ha1⟩ : ∃ z9, z9 = xs m1.toInt.toNat := ⟨_, rfl⟩
  have m_a1 := em1
  rw [← ha1]
  intro m2 em2
  have e2 : m2.toInt = i.toInt + 2 := by rw [em2]; exact pm_addc _ _ 2 rfl (by omega) (by omega)
  refine Exists.intro _ (Exists.intro _ (And.intro (Or.inr hro) (And.intro (by omega) ?_)))
  obtain ⟨a2, ha2⟩ : ∃ z9, z9 = xs m2.toInt.toNat := ⟨_, rfl⟩
  have m_a2 := em2
  rw [← ha2]
  refine And.intro (Exists.intro _ (cw_o0 hI.1)) (Exists.intro _ (Exists.intro _ (Exists.intro _ (Exists.intro _ (And.intro (F_X10_ask hI hS a1 a2 ) (And.intro (lw_bnd rfl (by omega) (by omega) rfl) (fun r9 A9 h9 => ?_)))))))
  obtain ⟨w2439, e2439, v2439, f2439, rfl, hI2439, hS2439, hy2439, y2439, rfl, by2439⟩ := h9
  have fr2439 := by2439.2
  intro m3 em3
  have e3 : m3.toInt = i.toInt + 1 := by rw [em3]; exact pm_addc _ _ 1 rfl (by omega) (by omega)
  refine Exists.intro _ (Exists.intro _ (And.intro (Or.inr hro) (And.intro (by omega) ?_)))
  have ha1_3 : a1 = xs m3.toInt.toNat := by rw [ha1, em3, ← m_a1]
  rw [← ha1_3]
  intro m4 em4
  have e4 : m4.toInt = i.toInt + 2 := by rw [em4]; exact pm_addc _ _ 2 rfl (by omega) (by omega)
  refine Exists.intro _ (Exists.intro _ (And.intro (Or.inr hro) (And.intro (by omega) ?_)))
  have ha2_4 : a2 = xs m4.toInt.toNat := by rw [ha2, em4, ← m_a2]
  rw [← ha2_4]
  rw [cw_md D dj]
  refine And.intro (Exists.intro _ (md_o)) (Exists.intro _ (Exists.intro _ (Exists.intro _ (Exists.intro _ (And.intro (F_X11_ask D mv mf hv hf a1 a2 ) (And.intro (lw_bnd rfl (by omega) (by omega) rfl) (fun r9 A9 h9 => ?_)))))))
  obtain ⟨y2454, mv2454, mf2454, rfl, rfl, hv2454, hf2454, hx2454, hg2454_0, hg2454_1, by2454⟩ := h9
  exact cont _ _ _ ⟨A00, K, nn, dn, q, w2439, e2439, v2439, f2439, mq, mv2454, mf2454, M, (cw_md D dj).symm, rfl, hI2439, hS2439, D, hv2454, hf2454, dj, fun j hj => by rw [hy2439, hx2454]; exact hw j hj, by omega, by omega, (rp_fr hR1 (congrArg Int32.toInt (fr2439 nn (by omega)).1) (fr2439 (nn + 1) (by omega)).2 (fr2439 (nn + 2) (by omega)).2), (rp_fr hR2 (by omega) hg2454_0 hg2454_1), (pm_eqI (by have q9 := congrArg Int32.toInt hg; omega)), (by omega), (by omega), hM, (bd_fr hB (congrArg Int32.toInt (fr2439 nn (by omega)).1) (fr2439 (nn + 1) (by omega)).2 (fr2439 (nn + 3) (by omega)).2)⟩ (by omega) (by omega)

set_option maxRecDepth 100000 in
set_option maxHeartbeats 2000000 in
theorem lx_b63 (hC : pm_Cl l g (lw_ro b L xs) 7 600000 7302250 lw_Rt bk_L_law J) {i : Int32} (hi : 0 ≤ i.toInt ∧ i.toInt + 6 ≤ L) (hL : L ≤ 3072) {E : Nat} (hE : E < 1000) {A : pm_H} {c s : Nat} (hA : LX g xo h E A) (hc : c + 4 ≤ 600000) (hs0 : s + 485 ≤ 7302250) (cont : ∀ (A' : pm_H) (c' s' : Nat), LX g xo h (E + 1) A' → c' ≤ c + 4 → s' ≤ s + 485 → J 2563 [some (.ref b), some (.ref xo), some (.ref h), some (.int i)] [] A' c' s') : J 2461 [some (.ref b), some (.ref xo), some (.ref h), some (.int i)] [] A c s := by
  obtain ⟨A00, K, nn, dn, q, w, e, v, f, mq, mv, mf, M, rfl, rfl, hI, hS, D, hv, hf, dj, hw, hE1, hE2, hR1, hR2, hg, he0, hN, hM, hB⟩ := hA
  have hu9 := hI.2.1
  unfold cw_W at hu9
  have hro : lw_ro b L xs b = some (L, xs) := if_pos rfl
  refine hC.1 63 2461 _ _ rfl _ _ _ _ _ ?_
  intro m1 em1
  have e1 : m1.toInt = i.toInt + 1 := by rw [em1]; exact pm_addc _ _ 1 rfl (by omega) (by omega)
  refine Exists.intro _ (Exists.intro _ (And.intro (Or.inr hro) (And.intro (by omega) ?_)))
  obtain ⟨a1, ha1⟩ : ∃ z9, z9 = xs m1.toInt.toNat := ⟨_, rfl⟩
  have m_a1 := em1
  rw [← ha1]
  intro m2 em2
  have e2 : m2.toInt = i.toInt + 2 := by rw [em2]; exact pm_addc _ _ 2 rfl (by omega) (by omega)
  refine Exists.intro _ (Exists.intro _ (And.intro (Or.inr hro) (And.intro (by omega) ?_)))
  obtain ⟨a2, ha2⟩ : ∃ z9, z9 = xs m2.toInt.toNat := ⟨_, rfl⟩
  have m_a2 := em2
  rw [← ha2]
  intro m3 em3
  have e3 : m3.toInt = i.toInt + 3 := by rw [em3]; exact pm_addc _ _ 3 rfl (by omega) (by omega)
  refine Exists.intro _ (Exists.intro _ (And.intro (Or.inr hro) (And.intro (by omega) ?_)))
  obtain ⟨a3, ha3⟩ : ∃ z9, z9 = xs m3.toInt.toNat := ⟨_, rfl⟩
  have m_a3 := em3
  rw [← ha3]
  refine And.intro (Exists.intro _ (cw_o0 hI.1)) (Exists.intro _ (Exists.intro _ (Exists.intro _ (Exists.intro _ (And.intro (F_X10_askOf hI hS a1 a2 a3 ) (And.intro (lw_bnd rfl (by omega) (by omega) rfl) (fun r9 A9 h9 => ?_)))))))
  obtain ⟨w2477, e2477, v2477, f2477, rfl, hI2477, hS2477, hy2477, y2477, rfl, by2477⟩ := h9
  have fr2477 := by2477.2
  intro m4 em4
  have e4 : m4.toInt = i.toInt + 1 := by rw [em4]; exact pm_addc _ _ 1 rfl (by omega) (by omega)
  refine Exists.intro _ (Exists.intro _ (And.intro (Or.inr hro) (And.intro (by omega) ?_)))
  have ha1_4 : a1 = xs m4.toInt.toNat := by rw [ha1, em4, ← m_a1]
  rw [← ha1_4]
  intro m5 em5
  have e5 : m5.toInt = i.toInt + 2 := by rw [em5]; exact pm_addc _ _ 2 rfl (by omega) (by omega)
  refine Exists.intro _ (Exists.intro _ (And.intro (Or.inr hro) (And.intro (by omega) ?_)))
  have ha2_5 : a2 = xs m5.toInt.toNat := by rw [ha2, em5, ← m_a2]
  rw [← ha2_5]
  intro m6 em6
  have e6 : m6.toInt = i.toInt + 3 := by rw [em6]; exact pm_addc _ _ 3 rfl (by omega) (by omega)
  refine Exists.intro _ (Exists.intro _ (And.intro (Or.inr hro) (And.intro (by omega) ?_)))
  have ha3_6 : a3 = xs m6.toInt.toNat := by rw [ha3, em6, ← m_a3]
  rw [← ha3_6]
  rw [cw_md D dj]
  refine And.intro (Exists.intro _ (md_o)) (Exists.intro _ (Exists.intro _ (Exists.intro _ (Exists.intro _ (And.intro (F_X11_askOf D mv mf hv hf a1 a2 a3 ) (And.intro (lw_bnd rfl (by omega) (by omega) rfl) (fun r9 A9 h9 => ?_)))))))
  obtain ⟨y2497, mv2497, mf2497, rfl, rfl, hv2497, hf2497, hx2497, hg2497_0, hg2497_1, by2497⟩ := h9
  exact cont _ _ _ ⟨A00, K, nn, dn, q, w2477, e2477, v2477, f2477, mq, mv2497, mf2497, M, (cw_md D dj).symm, rfl, hI2477, hS2477, D, hv2497, hf2497, dj, fun j hj => by rw [hy2477, hx2497]; exact hw j hj, by omega, by omega, (rp_fr hR1 (congrArg Int32.toInt (fr2477 nn (by omega)).1) (fr2477 (nn + 1) (by omega)).2 (fr2477 (nn + 2) (by omega)).2), (rp_fr hR2 (by omega) hg2497_0 hg2497_1), (pm_eqI (by have q9 := congrArg Int32.toInt hg; omega)), (by omega), (by omega), hM, (bd_fr hB (congrArg Int32.toInt (fr2477 nn (by omega)).1) (fr2477 (nn + 1) (by omega)).2 (fr2477 (nn + 3) (by omega)).2)⟩ (by omega) (by omega)

set_option maxRecDepth 100000 in
set_option maxHeartbeats 2000000 in
theorem lx_b64 (hC : pm_Cl l g (lw_ro b L xs) 7 600000 7302250 lw_Rt bk_L_law J) {i : Int32} (hi : 0 ≤ i.toInt ∧ i.toInt + 6 ≤ L) (hL : L ≤ 3072) {E : Nat} (hE : E < 1000) {A : pm_H} {c s : Nat} (hA : LX g xo h E A) (hc : c + 4 ≤ 600000) (hs0 : s + 485 ≤ 7302250) (cont : ∀ (A' : pm_H) (c' s' : Nat), LX g xo h (E + 1) A' → c' ≤ c + 4 → s' ≤ s + 485 → J 2563 [some (.ref b), some (.ref xo), some (.ref h), some (.int i)] [] A' c' s') : J 2504 [some (.ref b), some (.ref xo), some (.ref h), some (.int i)] [] A c s := by
  obtain ⟨A00, K, nn, dn, q, w, e, v, f, mq, mv, mf, M, rfl, rfl, hI, hS, D, hv, hf, dj, hw, hE1, hE2, hR1, hR2, hg, he0, hN, hM, hB⟩ := hA
  have hu9 := hI.2.1
  unfold cw_W at hu9
  have hro : lw_ro b L xs b = some (L, xs) := if_pos rfl
  refine hC.1 64 2504 _ _ rfl _ _ _ _ _ ?_
  refine And.intro (Exists.intro _ (cw_o0 hI.1)) (Exists.intro _ (Exists.intro _ (Exists.intro _ (Exists.intro _ (And.intro (F_X10_solve hI hS  ) (And.intro (lw_bnd rfl (by omega) (by omega) rfl) (fun r9 A9 h9 => ?_)))))))
  obtain ⟨w2505, e2505, v2505, f2505, rfl, hI2505, hS2505, hy2505, y2505, rfl, by2505⟩ := h9
  have fr2505 := by2505.2
  rw [cw_md D dj]
  refine And.intro (Exists.intro _ (md_o)) (Exists.intro _ (Exists.intro _ (Exists.intro _ (Exists.intro _ (And.intro (F_X11_solve D mv mf hv hf  ) (And.intro (lw_bnd rfl (by omega) (by omega) rfl) (fun r9 A9 h9 => ?_)))))))
  obtain ⟨y2510, mv2510, mf2510, rfl, rfl, hv2510, hf2510, hx2510, hg2510_0, hg2510_1, by2510⟩ := h9
  exact cont _ _ _ ⟨A00, K, nn, dn, q, w2505, e2505, v2505, f2505, mq, mv2510, mf2510, M, (cw_md D dj).symm, rfl, hI2505, hS2505, D, hv2510, hf2510, dj, fun j hj => by rw [hy2505, hx2510]; exact hw j hj, by omega, by omega, (rp_fr hR1 (congrArg Int32.toInt (fr2505 nn (by omega)).1) (fr2505 (nn + 1) (by omega)).2 (fr2505 (nn + 2) (by omega)).2), (rp_fr hR2 (by omega) hg2510_0 hg2510_1), (pm_eqI (by have q9 := congrArg Int32.toInt hg; omega)), (by omega), (by omega), hM, (bd_fr hB (congrArg Int32.toInt (fr2505 nn (by omega)).1) (fr2505 (nn + 1) (by omega)).2 (fr2505 (nn + 3) (by omega)).2)⟩ (by omega) (by omega)

set_option maxRecDepth 100000 in
set_option maxHeartbeats 2000000 in
theorem lx_b65 (hC : pm_Cl l g (lw_ro b L xs) 7 600000 7302250 lw_Rt bk_L_law J) {i : Int32} (hi : 0 ≤ i.toInt ∧ i.toInt + 6 ≤ L) (hL : L ≤ 3072) {E : Nat} (hE : E < 1000) {A : pm_H} {c s : Nat} (hA : LX g xo h E A) (hc : c + 4 ≤ 600000) (hs0 : s + 485 ≤ 7302250) (cont : ∀ (A' : pm_H) (c' s' : Nat), LX g xo h (E + 1) A' → c' ≤ c + 4 → s' ≤ s + 485 → J 2563 [some (.ref b), some (.ref xo), some (.ref h), some (.int i)] [] A' c' s') : J 2517 [some (.ref b), some (.ref xo), some (.ref h), some (.int i)] [] A c s := by
  obtain ⟨A00, K, nn, dn, q, w, e, v, f, mq, mv, mf, M, rfl, rfl, hI, hS, D, hv, hf, dj, hw, hE1, hE2, hR1, hR2, hg, he0, hN, hM, hB⟩ := hA
  have hu9 := hI.2.1
  unfold cw_W at hu9
  have hro : lw_ro b L xs b = some (L, xs) := if_pos rfl
  refine hC.1 65 2517 _ _ rfl _ _ _ _ _ ?_
  intro m1 em1
  have e1 : m1.toInt = i.toInt + 1 := by rw [em1]; exact pm_addc _ _ 1 rfl (by omega) (by omega)
  refine Exists.intro _ (Exists.intro _ (And.intro (Or.inr hro) (And.intro (by omega) ?_)))
  obtain ⟨a1, ha1⟩ : ∃ z9, z9 = xs m1.toInt.toNat := ⟨_, rfl⟩
  have m_a1 := em1
  rw [← ha1]
  intro m2 em2
  have e2 : m2.toInt = i.toInt + 2 := by rw [em2]; exact pm_addc _ _ 2 rfl (by omega) (by omega)
  refine Exists.intro _ (Exists.intro _ (And.intro (Or.inr hro) (And.intro (by omega) ?_)))
  obtain ⟨a2, ha2⟩ : ∃ z9, z9 = xs m2.toInt.toNat := ⟨_, rfl⟩
  have m_a2 := em2
  rw [← ha2]
  refine And.intro (Exists.intro _ (cw_o0 hI.1)) (Exists.intro _ (Exists.intro _ (Exists.intro _ (Exists.intro _ (And.intro (c_X10_asked hI hS a1 a2 ) (And.intro (lw_bnd rfl (by omega) (by omega) rfl) (fun r9 A9 h9 => ?_)))))))
  obtain ⟨y2528, rfl, rfl, by2528⟩ := h9
  intro m3 em3
  have e3 : m3.toInt = i.toInt + 1 := by rw [em3]; exact pm_addc _ _ 1 rfl (by omega) (by omega)
  refine Exists.intro _ (Exists.intro _ (And.intro (Or.inr hro) (And.intro (by omega) ?_)))
  have ha1_3 : a1 = xs m3.toInt.toNat := by rw [ha1, em3, ← m_a1]
  rw [← ha1_3]
  intro m4 em4
  have e4 : m4.toInt = i.toInt + 2 := by rw [em4]; exact pm_addc _ _ 2 rfl (by omega) (by omega)
  refine Exists.intro _ (Exists.intro _ (And.intro (Or.inr hro) (And.intro (by omega) ?_)))
  have ha2_4 : a2 = xs m4.toInt.toNat := by rw [ha2, em4, ← m_a2]
  rw [← ha2_4]
  rw [cw_md D dj]
  refine And.intro (Exists.intro _ (md_o)) (Exists.intro _ (Exists.intro _ (Exists.intro _ (Exists.intro _ (And.intro (c_X11_asked D mv mf hv hf a1 a2 ) (And.intro (lw_bnd rfl (by omega) (by omega) rfl) (fun r9 A9 h9 => ?_)))))))
  obtain ⟨y2543, rfl, rfl, by2543⟩ := h9
  exact cont _ _ _ ⟨A00, K, nn, dn, q, w, e, v, f, mq, mv, mf, M, (cw_md D dj).symm, rfl, hI, hS, D, hv, hf, dj, fun j hj => by exact hw j hj, by omega, by omega, hR1, hR2, hg, (by omega), hN, hM, hB⟩ (by omega) (by omega)

set_option maxRecDepth 100000 in
set_option maxHeartbeats 2000000 in
theorem lx_b66 (hC : pm_Cl l g (lw_ro b L xs) 7 600000 7302250 lw_Rt bk_L_law J) {i : Int32} (hi : 0 ≤ i.toInt ∧ i.toInt + 6 ≤ L) (hL : L ≤ 3072) {E : Nat} (hE : E < 1000) {A : pm_H} {c s : Nat} (hA : LX g xo h E A) (hc : c + 4 ≤ 600000) (hs0 : s + 485 ≤ 7302250) (cont : ∀ (A' : pm_H) (c' s' : Nat), LX g xo h (E + 1) A' → c' ≤ c + 4 → s' ≤ s + 485 → J 2563 [some (.ref b), some (.ref xo), some (.ref h), some (.int i)] [] A' c' s') : J 2550 [some (.ref b), some (.ref xo), some (.ref h), some (.int i)] [] A c s := by
  obtain ⟨A00, K, nn, dn, q, w, e, v, f, mq, mv, mf, M, rfl, rfl, hI, hS, D, hv, hf, dj, hw, hE1, hE2, hR1, hR2, hg, he0, hN, hM, hB⟩ := hA
  have hu9 := hI.2.1
  unfold cw_W at hu9
  have hro : lw_ro b L xs b = some (L, xs) := if_pos rfl
  refine hC.1 66 2550 _ _ rfl _ _ _ _ _ ?_
  refine And.intro (Exists.intro _ (cw_o0 hI.1)) (Exists.intro _ (Exists.intro _ (Exists.intro _ (Exists.intro _ (And.intro (F_X10_forget hI hS  ) (And.intro (lw_bnd rfl (by omega) (by omega) rfl) (fun r9 A9 h9 => ?_)))))))
  obtain ⟨w2551, e2551, v2551, f2551, rfl, hI2551, hS2551, hy2551, y2551, rfl, by2551⟩ := h9
  have fr2551 := by2551.2
  rw [cw_md D dj]
  refine And.intro (Exists.intro _ (md_o)) (Exists.intro _ (Exists.intro _ (Exists.intro _ (Exists.intro _ (And.intro (F_X11_forget D mv mf hv hf  ) (And.intro (lw_bnd rfl (by omega) (by omega) rfl) (fun r9 A9 h9 => ?_)))))))
  obtain ⟨y2556, mv2556, mf2556, rfl, rfl, hv2556, hf2556, hx2556, hg2556_0, hg2556_1, by2556⟩ := h9
  exact cont _ _ _ ⟨A00, K, nn, dn, q, w2551, e2551, v2551, f2551, mq, mv2556, mf2556, M, (cw_md D dj).symm, rfl, hI2551, hS2551, D, hv2556, hf2556, dj, fun j hj => by rw [hy2551, hx2556]; exact hw j hj, by omega, by omega, (rp_fr hR1 (congrArg Int32.toInt (fr2551 nn (by omega)).1) (fr2551 (nn + 1) (by omega)).2 (fr2551 (nn + 2) (by omega)).2), (rp_fr hR2 (by omega) hg2556_0 hg2556_1), (pm_eqI (by have q9 := congrArg Int32.toInt hg; omega)), (by omega), (by omega), hM, (bd_fr hB (congrArg Int32.toInt (fr2551 nn (by omega)).1) (fr2551 (nn + 1) (by omega)).2 (fr2551 (nn + 3) (by omega)).2)⟩ (by omega) (by omega)
end
