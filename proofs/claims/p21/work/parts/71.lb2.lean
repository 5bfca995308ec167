section
variable {l : Launch} {g : pm_G} {b L : Nat} {xs : Nat → Int32} {J : pm_J} {xo h : Nat}
set_option maxRecDepth 100000 in
set_option maxHeartbeats 2000000 in
theorem lx_b28 (hC : pm_Cl l g (lw_ro b L xs) 7 600000 7302250 lw_Rt bk_L_law J) {i : Int32} (hi : 0 ≤ i.toInt ∧ i.toInt + 6 ≤ L) (hL : L ≤ 3072) {E : Nat} (hE : E < 1000) {A : pm_H} {c s : Nat} (hA : LX g xo h E A) (hc : c + 4 ≤ 600000) (hs0 : s + 485 ≤ 7302250) (cont : ∀ (A' : pm_H) (c' s' : Nat), LX g xo h (E + 1) A' → c' ≤ c + 4 → s' ≤ s + 485 → J 2563 [some (.ref b), some (.ref xo), some (.ref h), some (.int i)] [] A' c' s') : J 1276 [some (.ref b), some (.ref xo), some (.ref h), some (.int i)] [] A c s := by
  obtain ⟨A00, K, nn, dn, q, w, e, v, f, mq, mv, mf, M, rfl, rfl, hI, hS, D, hv, hf, dj, hw, hE1, hE2, hR1, hR2, hg, he0, hN, hM, hB⟩ := hA
  have hu9 := hI.2.1
  unfold cw_W at hu9
  have hro : lw_ro b L xs b = some (L, xs) := if_pos rfl
  refine hC.1 28 1276 _ _ rfl _ _ _ _ _ ?_
  intro m1 em1
  have e1 : m1.toInt = i.toInt + 1 := by rw [em1]; exact pm_addc _ _ 1 rfl (by omega) (by omega)
  refine Exists.intro _ (Exists.intro _ (And.intro (Or.inr hro) (And.intro (by omega) ?_)))
  obtain ⟨a1, ha1⟩ : ∃ z9, z9 = xs m1.toInt.toNat := ⟨_, rfl⟩
  have m_a1 := em1
  rw [← ha1]
  intro m2 em2
  have e2 : m2.toInt = i.toInt + 2 := by rw [em2]; exact pm_addc _ _ 2 rfl (by omega) (by omega)
  refine Exists.intro _ (Exists.intro _ (And.intro (Or.inr hro) (And.intro (by omega) ?_)))
  obtain ⟨a2, ha2⟩ : ∃ z9, z9 = xs m2.toInt.toNat := ⟨_, rfl⟩
  have m_a2 := em2
  rw [← ha2]
  intro m3 em3
  have e3 : m3.toInt = i.toInt + 3 := by rw [em3]; exact pm_addc _ _ 3 rfl (by omega) (by omega)
  refine Exists.intro _ (Exists.intro _ (And.intro (Or.inr hro) (And.intro (by omega) ?_)))
  obtain ⟨a3, ha3⟩ : ∃ z9, z9 = xs m3.toInt.toNat := ⟨_, rfl⟩
  have m_a3 := em3
  rw [← ha3]
  intro m4 em4
  have e4 : m4.toInt = i.toInt + 4 := by rw [em4]; exact pm_addc _ _ 4 rfl (by omega) (by omega)
  refine Exists.intro _ (Exists.intro _ (And.intro (Or.inr hro) (And.intro (by omega) ?_)))
  obtain ⟨a4, ha4⟩ : ∃ z9, z9 = xs m4.toInt.toNat := ⟨_, rfl⟩
  have m_a4 := em4
  rw [← ha4]
  intro m5 em5
  have e5 : m5.toInt = i.toInt + 5 := by rw [em5]; exact pm_addc _ _ 5 rfl (by omega) (by omega)
  refine Exists.intro _ (Exists.intro _ (And.intro (Or.inr hro) (And.intro (by omega) ?_)))
  obtain ⟨a5, ha5⟩ : ∃ z9, z9 = xs m5.toInt.toNat := ⟨_, rfl⟩
  have m_a5 := em5
  rw [← ha5]
  refine And.intro (Exists.intro _ (cw_o0 hI.1)) (Exists.intro _ (Exists.intro _ (Exists.intro _ (Exists.intro _ (And.intro (c_X10_both hI hS a1 a2 a3 a4 a5 ) (And.intro (lw_bnd rfl (by omega) (by omega) rfl) (fun r9 A9 h9 => ?_)))))))
  obtain ⟨v1302, f1302, rfl, hS1302, y1302, rfl, by1302⟩ := h9
  intro m6 em6
  have e6 : m6.toInt = i.toInt + 1 := by rw [em6]; exact pm_addc _ _ 1 rfl (by omega) (by omega)
  refine Exists.intro _ (Exists.intro _ (And.intro (Or.inr hro) (And.intro (by omega) ?_)))
  have ha1_6 : a1 = xs m6.toInt.toNat := by rw [ha1, em6, ← m_a1]
  rw [← ha1_6]
  intro m7 em7
  have e7 : m7.toInt = i.toInt + 2 := by rw [em7]; exact pm_addc _ _ 2 rfl (by omega) (by omega)
  refine Exists.intro _ (Exists.intro _ (And.intro (Or.inr hro) (And.intro (by omega) ?_)))
  have ha2_7 : a2 = xs m7.toInt.toNat := by rw [ha2, em7, ← m_a2]
  rw [← ha2_7]
  intro m8 em8
  have e8 : m8.toInt = i.toInt + 3 := by rw [em8]; exact pm_addc _ _ 3 rfl (by omega) (by omega)
  refine Exists.intro _ (Exists.intro _ (And.intro (Or.inr hro) (And.intro (by omega) ?_)))
  have ha3_8 : a3 = xs m8.toInt.toNat := by rw [ha3, em8, ← m_a3]
  rw [← ha3_8]
  intro m9 em9
  have e9 : m9.toInt = i.toInt + 4 := by rw [em9]; exact pm_addc _ _ 4 rfl (by omega) (by omega)
  refine Exists.intro _ (Exists.intro _ (And.intro (Or.inr hro) (And.intro (by omega) ?_)))
  have ha4_9 : a4 = xs m9.toInt.toNat := by rw [ha4, em9, ← m_a4]
  rw [← ha4_9]
  intro m10 em10
  have e10 : m10.toInt = i.toInt + 5 := by rw [em10]; exact pm_addc _ _ 5 rfl (by omega) (by omega)
  refine Exists.intro _ (Exists.intro _ (And.intro (Or.inr hro) (And.intro (by omega) ?_)))
  have ha5_10 : a5 = xs m10.toInt.toNat := by rw [ha5, em10, ← m_a5]
  rw [← ha5_10]
  rw [cw_md D dj]
  refine And.intro (Exists.intro _ (md_o)) (Exists.intro _ (Exists.intro _ (Exists.intro _ (Exists.intro _ (And.intro (c_X11_both D mv mf hv hf a1 a2 a3 a4 a5 ) (And.intro (lw_bnd rfl (by omega) (by omega) rfl) (fun r9 A9 h9 => ?_)))))))
  obtain ⟨y1332, rfl, rfl, by1332⟩ := h9
  exact cont _ _ _ ⟨A00, K, nn, dn, q, w, e, v1302, f1302, mq, mv, mf, M, (cw_md D dj).symm, rfl, hI, hS1302, D, hv, hf, dj, fun j hj => by exact hw j hj, by omega, by omega, hR1, hR2, hg, (by omega), hN, hM, hB⟩ (by omega) (by omega)

set_option maxRecDepth 100000 in
set_option maxHeartbeats 2000000 in
theorem lx_b29 (hC : pm_Cl l g (lw_ro b L xs) 7 600000 7302250 lw_Rt bk_L_law J) {i : Int32} (hi : 0 ≤ i.toInt ∧ i.toInt + 6 ≤ L) (hL : L ≤ 3072) {E : Nat} (hE : E < 1000) {A : pm_H} {c s : Nat} (hA : LX g xo h E A) (hc : c + 4 ≤ 600000) (hs0 : s + 485 ≤ 7302250) (cont : ∀ (A' : pm_H) (c' s' : Nat), LX g xo h (E + 1) A' → c' ≤ c + 4 → s' ≤ s + 485 → J 2563 [some (.ref b), some (.ref xo), some (.ref h), some (.int i)] [] A' c' s') : J 1339 [some (.ref b), some (.ref xo), some (.ref h), some (.int i)] [] A c s := by
  obtain ⟨A00, K, nn, dn, q, w, e, v, f, mq, mv, mf, M, rfl, rfl, hI, hS, D, hv, hf, dj, hw, hE1, hE2, hR1, hR2, hg, he0, hN, hM, hB⟩ := hA
  have hu9 := hI.2.1
  unfold cw_W at hu9
  have hro : lw_ro b L xs b = some (L, xs) := if_pos rfl
  refine hC.1 29 1339 _ _ rfl _ _ _ _ _ ?_
  intro m1 em1
  have e1 : m1.toInt = i.toInt + 1 := by rw [em1]; exact pm_addc _ _ 1 rfl (by omega) (by omega)
  refine Exists.intro _ (Exists.intro _ (And.intro (Or.inr hro) (And.intro (by omega) ?_)))
  obtain ⟨a1, ha1⟩ : ∃ z9, z9 = xs m1.toInt.toNat := ⟨_, rfl⟩
  have m_a1 := em1
  rw [← ha1]
  intro m2 em2
  have e2 : m2.toInt = i.toInt + 2 := by rw [em2]; exact pm_addc _ _ 2 rfl (by omega) (by omega)
  refine Exists.intro _ (Exists.intro _ (And.intro (Or.inr hro) (And.intro (by omega) ?_)))
  obtain ⟨a2, ha2⟩ : ∃ z9, z9 = xs m2.toInt.toNat := ⟨_, rfl⟩
  have m_a2 := em2
  rw [← ha2]
  intro m3 em3
  have e3 : m3.toInt = i.toInt + 3 := by rw [em3]; exact pm_addc _ _ 3 rfl (by omega) (by omega)
  refine Exists.intro _ (Exists.intro _ (And.intro (Or.inr hro) (And.intro (by omega) ?_)))
  obtain ⟨a3, ha3⟩ : ∃ z9, z9 = xs m3.toInt.toNat := ⟨_, rfl⟩
  have m_a3 := em3
  rw [← ha3]
  refine And.intro (Exists.intro _ (cw_o0 hI.1)) (Exists.intro _ (Exists.intro _ (Exists.intro _ (Exists.intro _ (And.intro (c_X10_tally hI hS a1 a2 a3 ) (And.intro (lw_bnd rfl (by omega) (by omega) rfl) (fun r9 A9 h9 => ?_)))))))
  obtain ⟨v1355, f1355, rfl, hS1355, y1355, rfl, by1355⟩ := h9
  intro m4 em4
  have e4 : m4.toInt = i.toInt + 1 := by rw [em4]; exact pm_addc _ _ 1 rfl (by omega) (by omega)
  refine Exists.intro _ (Exists.intro _ (And.intro (Or.inr hro) (And.intro (by omega) ?_)))
  have ha1_4 : a1 = xs m4.toInt.toNat := by rw [ha1, em4, ← m_a1]
  rw [← ha1_4]
  intro m5 em5
  have e5 : m5.toInt = i.toInt + 2 := by rw [em5]; exact pm_addc _ _ 2 rfl (by omega) (by omega)
  refine Exists.intro _ (Exists.intro _ (And.intro (Or.inr hro) (And.intro (by omega) ?_)))
  have ha2_5 : a2 = xs m5.toInt.toNat := by rw [ha2, em5, ← m_a2]
  rw [← ha2_5]
  intro m6 em6
  have e6 : m6.toInt = i.toInt + 3 := by rw [em6]; exact pm_addc _ _ 3 rfl (by omega) (by omega)
  refine Exists.intro _ (Exists.intro _ (And.intro (Or.inr hro) (And.intro (by omega) ?_)))
  have ha3_6 : a3 = xs m6.toInt.toNat := by rw [ha3, em6, ← m_a3]
  rw [← ha3_6]
  rw [cw_md D dj]
  refine And.intro (Exists.intro _ (md_o)) (Exists.intro _ (Exists.intro _ (Exists.intro _ (Exists.intro _ (And.intro (c_X11_tally D mv mf hv hf a1 a2 a3 ) (And.intro (lw_bnd rfl (by omega) (by omega) rfl) (fun r9 A9 h9 => ?_)))))))
  obtain ⟨y1375, rfl, rfl, by1375⟩ := h9
  exact cont _ _ _ ⟨A00, K, nn, dn, q, w, e, v1355, f1355, mq, mv, mf, M, (cw_md D dj).symm, rfl, hI, hS1355, D, hv, hf, dj, fun j hj => by exact hw j hj, by omega, by omega, hR1, hR2, hg, (by omega), hN, hM, hB⟩ (by omega) (by omega)

set_option maxRecDepth 100000 in
set_option maxHeartbeats 2000000 in
theorem lx_b30 (hC : pm_Cl l g (lw_ro b L xs) 7 600000 7302250 lw_Rt bk_L_law J) {i : Int32} (hi : 0 ≤ i.toInt ∧ i.toInt + 6 ≤ L) (hL : L ≤ 3072) {E : Nat} (hE : E < 1000) {A : pm_H} {c s : Nat} (hA : LX g xo h E A) (hc : c + 4 ≤ 600000) (hs0 : s + 485 ≤ 7302250) (cont : ∀ (A' : pm_H) (c' s' : Nat), LX g xo h (E + 1) A' → c' ≤ c + 4 → s' ≤ s + 485 → J 2563 [some (.ref b), some (.ref xo), some (.ref h), some (.int i)] [] A' c' s') : J 1382 [some (.ref b), some (.ref xo), some (.ref h), some (.int i)] [] A c s := by
  obtain ⟨A00, K, nn, dn, q, w, e, v, f, mq, mv, mf, M, rfl, rfl, hI, hS, D, hv, hf, dj, hw, hE1, hE2, hR1, hR2, hg, he0, hN, hM, hB⟩ := hA
  have hu9 := hI.2.1
  unfold cw_W at hu9
  have hro : lw_ro b L xs b = some (L, xs) := if_pos rfl
  refine hC.1 30 1382 _ _ rfl _ _ _ _ _ ?_
  intro m1 em1
  have e1 : m1.toInt = i.toInt + 1 := by rw [em1]; exact pm_addc _ _ 1 rfl (by omega) (by omega)
  refine Exists.intro _ (Exists.intro _ (And.intro (Or.inr hro) (And.intro (by omega) ?_)))
  obtain ⟨a1, ha1⟩ : ∃ z9, z9 = xs m1.toInt.toNat := ⟨_, rfl⟩
  have m_a1 := em1
  rw [← ha1]
  intro m2 em2
  have e2 : m2.toInt = i.toInt + 2 := by rw [em2]; exact pm_addc _ _ 2 rfl (by omega) (by omega)
  refine Exists.intro _ (Exists.intro _ (And.intro (Or.inr hro) (And.intro (by omega) ?_)))
  obtain ⟨a2, ha2⟩ : ∃ z9, z9 = xs m2.toInt.toNat := ⟨_, rfl⟩
  have m_a2 := em2
  rw [← ha2]
  refine And.intro (Exists.intro _ (cw_o0 hI.1)) (Exists.intro _ (Exists.intro _ (Exists.intro _ (Exists.intro _ (And.intro (c_X10_major hI hS a1 a2 ) (And.intro (lw_bnd rfl (by omega) (by omega) rfl) (fun r9 A9 h9 => ?_)))))))
  obtain ⟨v1393, f1393, rfl, hS1393, y1393, rfl, by1393⟩ := h9
  intro m3 em3
  have e3 : m3.toInt = i.toInt + 1 := by rw [em3]; exact pm_addc _ _ 1 rfl (by omega) (by omega)
  refine Exists.intro _ (Exists.intro _ (And.intro (Or.inr hro) (And.intro (by omega) ?_)))
  have ha1_3 : a1 = xs m3.toInt.toNat := by rw [ha1, em3, ← m_a1]
  rw [← ha1_3]
  intro m4 em4
  have e4 : m4.toInt = i.toInt + 2 := by rw [em4]; exact pm_addc _ _ 2 rfl (by omega) (by omega)
  refine Exists.intro _ (Exists.intro _ (And.intro (Or.inr hro) (And.intro (by omega) ?_)))
  have ha2_4 : a2 = xs m4.toInt.toNat := by rw [ha2, em4, ← m_a2]
  rw [← ha2_4]
  rw [cw_md D dj]
  refine And.intro (Exists.intro _ (md_o)) (Exists.intro _ (Exists.intro _ (Exists.intro _ (Exists.intro _ (And.intro (c_X11_major D mv mf hv hf a1 a2 ) (And.intro (lw_bnd rfl (by omega) (by omega) rfl) (fun r9 A9 h9 => ?_)))))))
  obtain ⟨y1408, rfl, rfl, by1408⟩ := h9
  exact cont _ _ _ ⟨A00, K, nn, dn, q, w, e, v1393, f1393, mq, mv, mf, M, (cw_md D dj).symm, rfl, hI, hS1393, D, hv, hf, dj, fun j hj => by exact hw j hj, by omega, by omega, hR1, hR2, hg, (by omega), hN, hM, hB⟩ (by omega) (by omega)

set_option maxRecDepth 100000 in
set_option maxHeartbeats 2000000 in
theorem lx_b31 (hC : pm_Cl l g (lw_ro b L xs) 7 600000 7302250 lw_Rt bk_L_law J) {i : Int32} (hi : 0 ≤ i.toInt ∧ i.toInt + 6 ≤ L) (hL : L ≤ 3072) {E : Nat} (hE : E < 1000) {A : pm_H} {c s : Nat} (hA : LX g xo h E A) (hc : c + 4 ≤ 600000) (hs0 : s + 485 ≤ 7302250) (cont : ∀ (A' : pm_H) (c' s' : Nat), LX g xo h (E + 1) A' → c' ≤ c + 4 → s' ≤ s + 485 → J 2563 [some (.ref b), some (.ref xo), some (.ref h), some (.int i)] [] A' c' s') : J 1415 [some (.ref b), some (.ref xo), some (.ref h), some (.int i)] [] A c s := by
  obtain ⟨A00, K, nn, dn, q, w, e, v, f, mq, mv, mf, M, rfl, rfl, hI, hS, D, hv, hf, dj, hw, hE1, hE2, hR1, hR2, hg, he0, hN, hM, hB⟩ := hA
  have hu9 := hI.2.1
  unfold cw_W at hu9
  have hro : lw_ro b L xs b = some (L, xs) := if_pos rfl
  refine hC.1 31 1415 _ _ rfl _ _ _ _ _ ?_
  intro m1 em1
  have e1 : m1.toInt = i.toInt + 1 := by rw [em1]; exact pm_addc _ _ 1 rfl (by omega) (by omega)
  refine Exists.intro _ (Exists.intro _ (And.intro (Or.inr hro) (And.intro (by omega) ?_)))
  obtain ⟨a1, ha1⟩ : ∃ z9, z9 = xs m1.toInt.toNat := ⟨_, rfl⟩
  have m_a1 := em1
  rw [← ha1]
  intro m2 em2
  have e2 : m2.toInt = i.toInt + 2 := by rw [em2]; exact pm_addc _ _ 2 rfl (by omega) (by omega)
  refine Exists.intro _ (Exists.intro _ (And.intro (Or.inr hro) (And.intro (by omega) ?_)))
  obtain ⟨a2, ha2⟩ : ∃ z9, z9 = xs m2.toInt.toNat := ⟨_, rfl⟩
  have m_a2 := em2
  rw [← ha2]
  intro m3 em3
  have e3 : m3.toInt = i.toInt + 3 := by rw [em3]; exact pm_addc _ _ 3 rfl (by omega) (by omega)
  refine Exists.intro _ (Exists.intro _ (And.intro (Or.inr hro) (And.intro (by omega) ?_)))
  obtain ⟨a3, ha3⟩ : ∃ z9, z9 = xs m3.toInt.toNat := ⟨_, rfl⟩
  have m_a3 := em3
  rw [← ha3]
  refine And.intro (Exists.intro _ (cw_o0 hI.1)) (Exists.intro _ (Exists.intro _ (Exists.intro _ (Exists.intro _ (And.intro (c_X10_close hI hS a1 a2 a3 ) (And.intro (lw_bnd rfl (by omega) (by omega) rfl) (fun r9 A9 h9 => ?_)))))))
  obtain ⟨v1431, f1431, rfl, hS1431, y1431, rfl, by1431⟩ := h9
  intro m4 em4
  have e4 : m4.toInt = i.toInt + 1 := by rw [em4]; exact pm_addc _ _ 1 rfl (by omega) (by omega)
  refine Exists.intro _ (Exists.intro _ (And.intro (Or.inr hro) (And.intro (by omega) ?_)))
  have ha1_4 : a1 = xs m4.toInt.toNat := by rw [ha1, em4, ← m_a1]
  rw [← ha1_4]
  intro m5 em5
  have e5 : m5.toInt = i.toInt + 2 := by rw [em5]; exact pm_addc _ _ 2 rfl (by omega) (by omega)
  refine Exists.intro _ (Exists.intro _ (And.intro (Or.inr hro) (And.intro (by omega) ?_)))
  have ha2_5 : a2 = xs m5.toInt.toNat := by rw [ha2, em5, ← m_a2]
  rw [← ha2_5]
  intro m6 em6
  have e6 : m6.toInt = i.toInt + 3 := by rw [em6]; exact pm_addc _ _ 3 rfl (by omega) (by omega)
  refine Exists.intro _ (Exists.intro _ (And.intro (Or.inr hro) (And.intro (by omega) ?_)))
  have ha3_6 : a3 = xs m6.toInt.toNat := by rw [ha3, em6, ← m_a3]
  rw [← ha3_6]
  rw [cw_md D dj]
  refine And.intro (Exists.intro _ (md_o)) (Exists.intro _ (Exists.intro _ (Exists.intro _ (Exists.intro _ (And.intro (c_X11_close D mv mf hv hf a1 a2 a3 ) (And.intro (lw_bnd rfl (by omega) (by omega) rfl) (fun r9 A9 h9 => ?_)))))))
  obtain ⟨y1451, rfl, rfl, by1451⟩ := h9
  exact cont _ _ _ ⟨A00, K, nn, dn, q, w, e, v1431, f1431, mq, mv, mf, M, (cw_md D dj).symm, rfl, hI, hS1431, D, hv, hf, dj, fun j hj => by exact hw j hj, by omega, by omega, hR1, hR2, hg, (by omega), hN, hM, hB⟩ (by omega) (by omega)

set_option maxRecDepth 100000 in
set_option maxHeartbeats 2000000 in
theorem lx_b32 (hC : pm_Cl l g (lw_ro b L xs) 7 600000 7302250 lw_Rt bk_L_law J) {i : Int32} (hi : 0 ≤ i.toInt ∧ i.toInt + 6 ≤ L) (hL : L ≤ 3072) {E : Nat} (hE : E < 1000) {A : pm_H} {c s : Nat} (hA : LX g xo h E A) (hc : c + 4 ≤ 600000) (hs0 : s + 485 ≤ 7302250) (cont : ∀ (A' : pm_H) (c' s' : Nat), LX g xo h (E + 1) A' → c' ≤ c + 4 → s' ≤ s + 485 → J 2563 [some (.ref b), some (.ref xo), some (.ref h), some (.int i)] [] A' c' s') : J 1458 [some (.ref b), some (.ref xo), some (.ref h), some (.int i)] [] A c s := by
  obtain ⟨A00, K, nn, dn, q, w, e, v, f, mq, mv, mf, M, rfl, rfl, hI, hS, D, hv, hf, dj, hw, hE1, hE2, hR1, hR2, hg, he0, hN, hM, hB⟩ := hA
  have hu9 := hI.2.1
  unfold cw_W at hu9
  have hro : lw_ro b L xs b = some (L, xs) := if_pos rfl
  refine hC.1 32 1458 _ _ rfl _ _ _ _ _ ?_
  intro m1 em1
  have e1 : m1.toInt = i.toInt + 1 := by rw [em1]; exact pm_addc _ _ 1 rfl (by omega) (by omega)
  refine Exists.intro _ (Exists.intro _ (And.intro (Or.inr hro) (And.intro (by omega) ?_)))
  obtain ⟨a1, ha1⟩ : ∃ z9, z9 = xs m1.toInt.toNat := ⟨_, rfl⟩
  have m_a1 := em1
  rw [← ha1]
  intro m2 em2
  have e2 : m2.toInt = i.toInt + 2 := by rw [em2]; exact pm_addc _ _ 2 rfl (by omega) (by omega)
  refine Exists.intro _ (Exists.intro _ (And.intro (Or.inr hro) (And.intro (by omega) ?_)))
  obtain ⟨a2, ha2⟩ : ∃ z9, z9 = xs m2.toInt.toNat := ⟨_, rfl⟩
  have m_a2 := em2
  rw [← ha2]
  refine And.intro (Exists.intro _ (cw_o0 hI.1)) (Exists.intro _ (Exists.intro _ (Exists.intro _ (Exists.intro _ (And.intro (c_X10_sides hI hS a1 a2 ) (And.intro (lw_bnd rfl (by omega) (by omega) rfl) (fun r9 A9 h9 => ?_)))))))
  obtain ⟨v1469, f1469, rfl, hS1469, y1469, rfl, by1469⟩ := h9
  intro m3 em3
  have e3 : m3.toInt = i.toInt + 1 := by rw [em3]; exact pm_addc _ _ 1 rfl (by omega) (by omega)
  refine Exists.intro _ (Exists.intro _ (And.intro (Or.inr hro) (And.intro (by omega) ?_)))
  have ha1_3 : a1 = xs m3.toInt.toNat := by rw [ha1, em3, ← m_a1]
  rw [← ha1_3]
  intro m4 em4
  have e4 : m4.toInt = i.toInt + 2 := by rw [em4]; exact pm_addc _ _ 2 rfl (by omega) (by omega)
  refine Exists.intro _ (Exists.intro _ (And.intro (Or.inr hro) (And.intro (by omega) ?_)))
  have ha2_4 : a2 = xs m4.toInt.toNat := by rw [ha2, em4, ← m_a2]
  rw [← ha2_4]
  rw [cw_md D dj]
  refine And.intro (Exists.intro _ (md_o)) (Exists.intro _ (Exists.intro _ (Exists.intro _ (Exists.intro _ (And.intro (c_X11_sides D mv mf hv hf a1 a2 ) (And.intro (lw_bnd rfl (by omega) (by omega) rfl) (fun r9 A9 h9 => ?_)))))))
  obtain ⟨y1484, rfl, rfl, by1484⟩ := h9
  exact cont _ _ _ ⟨A00, K, nn, dn, q, w, e, v1469, f1469, mq, mv, mf, M, (cw_md D dj).symm, rfl, hI, hS1469, D, hv, hf, dj, fun j hj => by exact hw j hj, by omega, by omega, hR1, hR2, hg, (by omega), hN, hM, hB⟩ (by omega) (by omega)

set_option maxRecDepth 100000 in
set_option maxHeartbeats 2000000 in
theorem lx_b33 (hC : pm_Cl l g (lw_ro b L xs) 7 600000 7302250 lw_Rt bk_L_law J) {i : Int32} (hi : 0 ≤ i.toInt ∧ i.toInt + 6 ≤ L) (hL : L ≤ 3072) {E : Nat} (hE : E < 1000) {A : pm_H} {c s : Nat} (hA : LX g xo h E A) (hc : c + 4 ≤ 600000) (hs0 : s + 485 ≤ 7302250) (cont : ∀ (A' : pm_H) (c' s' : Nat), LX g xo h (E + 1) A' → c' ≤ c + 4 → s' ≤ s + 485 → J 2563 [some (.ref b), some (.ref xo), some (.ref h), some (.int i)] [] A' c' s') : J 1491 [some (.ref b), some (.ref xo), some (.ref h), some (.int i)] [] A c s := by
  obtain ⟨A00, K, nn, dn, q, w, e, v, f, mq, mv, mf, M, rfl, rfl, hI, hS, D, hv, hf, dj, hw, hE1, hE2, hR1, hR2, hg, he0, hN, hM, hB⟩ := hA
  have hu9 := hI.2.1
  unfold cw_W at hu9
  have hro : lw_ro b L xs b = some (L, xs) := if_pos rfl
  refine hC.1 33 1491 _ _ rfl _ _ _ _ _ ?_
  intro m1 em1
  have e1 : m1.toInt = i.toInt + 1 := by rw [em1]; exact pm_addc _ _ 1 rfl (by omega) (by omega)
  refine Exists.intro _ (Exists.intro _ (And.intro (Or.inr hro) (And.intro (by omega) ?_)))
  obtain ⟨a1, ha1⟩ : ∃ z9, z9 = xs m1.toInt.toNat := ⟨_, rfl⟩
  have m_a1 := em1
  rw [← ha1]
  intro m2 em2
  have e2 : m2.toInt = i.toInt + 2 := by rw [em2]; exact pm_addc _ _ 2 rfl (by omega) (by omega)
  refine Exists.intro _ (Exists.intro _ (And.intro (Or.inr hro) (And.intro (by omega) ?_)))
  obtain ⟨a2, ha2⟩ : ∃ z9, z9 = xs m2.toInt.toNat := ⟨_, rfl⟩
  have m_a2 := em2
  rw [← ha2]
  refine And.intro (Exists.intro _ (cw_o0 hI.1)) (Exists.intro _ (Exists.intro _ (Exists.intro _ (Exists.intro _ (And.intro (c_X10_cover hI hS a1 a2 ) (And.intro (lw_bnd rfl (by omega) (by omega) rfl) (fun r9 A9 h9 => ?_)))))))
  obtain ⟨v1502, f1502, rfl, hS1502, y1502, rfl, by1502⟩ := h9
  intro m3 em3
  have e3 : m3.toInt = i.toInt + 1 := by rw [em3]; exact pm_addc _ _ 1 rfl (by omega) (by omega)
  refine Exists.intro _ (Exists.intro _ (And.intro (Or.inr hro) (And.intro (by omega) ?_)))
  have ha1_3 : a1 = xs m3.toInt.toNat := by rw [ha1, em3, ← m_a1]
  rw [← ha1_3]
  intro m4 em4
  have e4 : m4.toInt = i.toInt + 2 := by rw [em4]; exact pm_addc _ _ 2 rfl (by omega) (by omega)
  refine Exists.intro _ (Exists.intro _ (And.intro (Or.inr hro) (And.intro (by omega) ?_)))
  have ha2_4 : a2 = xs m4.toInt.toNat := by rw [ha2, em4, ← m_a2]
  rw [← ha2_4]
  rw [cw_md D dj]
  refine And.intro (Exists.intro _ (md_o)) (Exists.intro _ (Exists.intro _ (Exists.intro _ (Exists.intro _ (And.intro (c_X11_cover D mv mf hv hf a1 a2 ) (And.intro (lw_bnd rfl (by omega) (by omega) rfl) (fun r9 A9 h9 => ?_)))))))
  obtain ⟨y1517, rfl, rfl, by1517⟩ := h9
  exact cont _ _ _ ⟨A00, K, nn, dn, q, w, e, v1502, f1502, mq, mv, mf, M, (cw_md D dj).symm, rfl, hI, hS1502, D, hv, hf, dj, fun j hj => by exact hw j hj, by omega, by omega, hR1, hR2, hg, (by omega), hN, hM, hB⟩ (by omega) (by omega)

set_option maxRecDepth 100000 in
set_option maxHeartbeats 2000000 in
theorem lx_b34 (hC : pm_Cl l g (lw_ro b L xs) 7 600000 7302250 lw_Rt bk_L_law J) {i : Int32} (hi : 0 ≤ i.toInt ∧ i.toInt + 6 ≤ L) (hL : L ≤ 3072) {E : Nat} (hE : E < 1000) {A : pm_H} {c s : Nat} (hA : LX g xo h E A) (hc : c + 4 ≤ 600000) (hs0 : s + 485 ≤ 7302250) (cont : ∀ (A' : pm_H) (c' s' : Nat), LX g xo h (E + 1) A' → c' ≤ c + 4 → s' ≤ s + 485 → J 2563 [some (.ref b), some (.ref xo), some (.ref h), some (.int i)] [] A' c' s') : J 1524 [some (.ref b), some (.ref xo), some (.ref h), some (.int i)] [] A c s := by
  obtain ⟨A00, K, nn, dn, q, w, e, v, f, mq, mv, mf, M, rfl, rfl, hI, hS, D, hv, hf, dj, hw, hE1, hE2, hR1, hR2, hg, he0, hN, hM, hB⟩ := hA
  have hu9 := hI.2.1
  unfold cw_W at hu9
  have hro : lw_ro b L xs b = some (L, xs) := if_pos rfl
  refine hC.1 34 1524 _ _ rfl _ _ _ _ _ ?_
  intro m1 em1
  have e1 : m1.toInt = i.toInt + 1 := by rw [em1]; exact pm_addc _ _ 1 rfl (by omega) (by omega)
  refine Exists.intro _ (Exists.intro _ (And.intro (Or.inr hro) (And.intro (by omega) ?_)))
  obtain ⟨a1, ha1⟩ : ∃ z9, z9 = xs m1.toInt.toNat := ⟨_, rfl⟩
  have m_a1 := em1
  rw [← ha1]
  intro m2 em2
  have e2 : m2.toInt = i.toInt + 2 := by rw [em2]; exact pm_addc _ _ 2 rfl (by omega) (by omega)
  refine Exists.intro _ (Exists.intro _ (And.intro (Or.inr hro) (And.intro (by omega) ?_)))
  obtain ⟨a2, ha2⟩ : ∃ z9, z9 = xs m2.toInt.toNat := ⟨_, rfl⟩
  have m_a2 := em2
  rw [← ha2]
  intro m3 em3
  have e3 : m3.toInt = i.toInt + 3 := by rw [em3]; exact pm_addc _ _ 3 rfl (by omega) (by omega)
  refine Exists.intro _ (Exists.intro _ (And.intro (Or.inr hro) (And.intro (by omega) ?_)))
  obtain ⟨a3, ha3⟩ : ∃ z9, z9 = xs m3.toInt.toNat := ⟨_, rfl⟩
  have m_a3 := em3
  rw [← ha3]
  refine And.intro (Exists.intro _ (cw_o0 hI.1)) (Exists.intro _ (Exists.intro _ (Exists.intro _ (Exists.intro _ (And.intro (c_X10_least hI hS a1 a2 a3 ) (And.intro (lw_bnd rfl (by omega) (by omega) rfl) (fun r9 A9 h9 => ?_)))))))
  obtain ⟨v1540, f1540, rfl, hS1540, y1540, rfl, by1540⟩ := h9
  intro m4 em4
  have e4 : m4.toInt = i.toInt + 1 := by rw [em4]; exact pm_addc _ _ 1 rfl (by omega) (by omega)
  refine Exists.intro _ (Exists.intro _ (And.intro (Or.inr hro) (And.intro (by omega) ?_)))
  have ha1_4 : a1 = xs m4.toInt.toNat := by rw [ha1, em4, ← m_a1]
  rw [← ha1_4]
  intro m5 em5
  have e5 : m5.toInt = i.toInt + 2 := by rw [em5]; exact pm_addc _ _ 2 rfl (by omega) (by omega)
  refine Exists.intro _ (Exists.intro _ (And.intro (Or.inr hro) (And.intro (by omega) ?_)))
  have ha2_5 : a2 = xs m5.toInt.toNat := by rw [ha2, em5, ← m_a2]
  rw [← ha2_5]
  intro m6 em6
  have e6 : m6.toInt = i.toInt + 3 := by rw [em6]; exact pm_addc _ _ 3 rfl (by omega) (by omega)
  refine Exists.intro _ (Exists.intro _ (And.intro (Or.inr hro) (And.intro (by omega) ?_)))
  have ha3_6 : a3 = xs m6.toInt.toNat := by rw [ha3, em6, ← m_a3]
  rw [← ha3_6]
  rw [cw_md D dj]
  refine And.intro (Exists.intro _ (md_o)) (Exists.intro _ (Exists.intro _ (Exists.intro _ (Exists.intro _ (And.intro (F_X11_least D mv mf hv hf a1 a2 a3 ) (And.intro (lw_bnd rfl (by omega) (by omega) rfl) (fun r9 A9 h9 => ?_)))))))
  obtain ⟨y1560, mv1560, mf1560, rfl, rfl, hv1560, hf1560, hx1560, hg1560_0, hg1560_1, by1560⟩ := h9
  exact cont _ _ _ ⟨A00, K, nn, dn, q, w, e, v1540, f1540, mq, mv1560, mf1560, M, (cw_md D dj).symm, rfl, hI, hS1540, D, hv1560, hf1560, dj, fun j hj => by rw [hx1560]; exact hw j hj, by omega, by omega, hR1, (rp_fr hR2 (by omega) hg1560_0 hg1560_1), (pm_eqI (by have q9 := congrArg Int32.toInt hg; omega)), (by omega), hN, hM, hB⟩ (by omega) (by omega)

set_option maxRecDepth 100000 in
set_option maxHeartbeats 2000000 in
theorem lx_b35 (hC : pm_Cl l g (lw_ro b L xs) 7 600000 7302250 lw_Rt bk_L_law J) {i : Int32} (hi : 0 ≤ i.toInt ∧ i.toInt + 6 ≤ L) (hL : L ≤ 3072) {E : Nat} (hE : E < 1000) {A : pm_H} {c s : Nat} (hA : LX g xo h E A) (hc : c + 4 ≤ 600000) (hs0 : s + 485 ≤ 7302250) (cont : ∀ (A' : pm_H) (c' s' : Nat), LX g xo h (E + 1) A' → c' ≤ c + 4 → s' ≤ s + 485 → J 2563 [some (.ref b), some (.ref xo), some (.ref h), some (.int i)] [] A' c' s') : J 1567 [some (.ref b), some (.ref xo), some (.ref h), some (.int i)] [] A c s := by
  obtain ⟨A00, K, nn, dn, q, w, e, v, f, mq, mv, mf, M, rfl, rfl, hI, hS, D, hv, hf, dj, hw, hE1, hE2, hR1, hR2, hg, he0, hN, hM, hB⟩ := hA
  have hu9 := hI.2.1
  unfold cw_W at hu9
  have hro : lw_ro b L xs b = some (L, xs) := if_pos rfl
  refine hC.1 35 1567 _ _ rfl _ _ _ _ _ ?_
  intro m1 em1
  have e1 : m1.toInt = i.toInt + 1 := by rw [em1]; exact pm_addc _ _ 1 rfl (by omega) (by omega)
  refine Exists.intro _ (Exists.intro _ (And.intro (Or.inr hro) (And.intro (by omega) ?_)))
  obtain ⟨a1, ha1⟩ : ∃ z9, z9 = xs m1.toInt.toNat := ⟨_, rfl⟩
  have m_a1 := em1
  rw [← ha1]
  intro m2 em2
  have e2 : m2.toInt = i.toInt + 2 := by rw [em2]; exact pm_addc _ _ 2 rfl (by omega) (by omega)
  refine Exists.intro _ (Exists.intro _ (And.intro (Or.inr hro) (And.intro (by omega) ?_)))
  obtain ⟨a2, ha2⟩ : ∃ z9, z9 = xs m2.toInt.toNat := ⟨_, rfl⟩
  have m_a2 := em2
  rw [← ha2]
  intro m3 em3
  have e3 : m3.toInt = i.toInt + 3 := by rw [em3]; exact pm_addc _ _ 3 rfl (by omega) (by omega)
  refine Exists.intro _ (Exists.intro _ (And.intro (Or.inr hro) (And.intro (by omega) ?_)))
  obtain ⟨a3, ha3⟩ : ∃ z9, z9 = xs m3.toInt.toNat := ⟨_, rfl⟩
  have m_a3 := em3
  rw [← ha3]
  refine And.intro (Exists.intro _ (cw_o0 hI.1)) (Exists.intro _ (Exists.intro _ (Exists.intro _ (Exists.intro _ (And.intro (c_X10_fair hI hS a1 a2 a3 ) (And.intro (lw_bnd rfl (by omega) (by omega) rfl) (fun r9 A9 h9 => ?_)))))))
  obtain ⟨v1583, f1583, rfl, hS1583, y1583, rfl, by1583⟩ := h9
  intro m4 em4
  have e4 : m4.toInt = i.toInt + 1 := by rw [em4]; exact pm_addc _ _ 1 rfl (by omega) (by omega)
  refine Exists.intro _ (Exists.intro _ (And.intro (Or.inr hro) (And.intro (by omega) ?_)))
  have ha1_4 : a1 = xs m4.toInt.toNat := by rw [ha1, em4, ← m_a1]
  rw [← ha1_4]
  intro m5 em5
  have e5 : m5.toInt = i.toInt + 2 := by rw [em5]; exact pm_addc _ _ 2 rfl (by omega) (by omega)
  refine Exists.intro _ (Exists.intro _ (And.intro (Or.inr hro) (And.intro (by omega) ?_)))
  have ha2_5 : a2 = xs m5.toInt.toNat := by rw [ha2, em5, ← m_a2]
  rw [← ha2_5]
  intro m6 em6
  have e6 : m6.toInt = i.toInt + 3 := by rw [em6]; exact pm_addc _ _ 3 rfl (by omega) (by omega)
  refine Exists.intro _ (Exists.intro _ (And.intro (Or.inr hro) (And.intro (by omega) ?_)))
  have ha3_6 : a3 = xs m6.toInt.toNat := by rw [ha3, em6, ← m_a3]
  rw [← ha3_6]
  rw [cw_md D dj]
  refine And.intro (Exists.intro _ (md_o)) (Exists.intro _ (Exists.intro _ (Exists.intro _ (Exists.intro _ (And.intro (c_X11_fair D mv mf hv hf a1 a2 a3 ) (And.intro (lw_bnd rfl (by omega) (by omega) rfl) (fun r9 A9 h9 => ?_)))))))
  obtain ⟨y1603, rfl, rfl, by1603⟩ := h9
  exact cont _ _ _ ⟨A00, K, nn, dn, q, w, e, v1583, f1583, mq, mv, mf, M, (cw_md D dj).symm, rfl, hI, hS1583, D, hv, hf, dj, fun j hj => by exact hw j hj, by omega, by omega, hR1, hR2, hg, (by omega), hN, hM, hB⟩ (by omega) (by omega)

set_option maxRecDepth 100000 in
set_option maxHeartbeats 2000000 in
theorem lx_b36 (hC : pm_Cl l g (lw_ro b L xs) 7 600000 7302250 lw_Rt bk_L_law J) {i : Int32} (hi : 0 ≤ i.toInt ∧ i.toInt + 6 ≤ L) (hL : L ≤ 3072) {E : Nat} (hE : E < 1000) {A : pm_H} {c s : Nat} (hA : LX g xo h E A) (hc : c + 4 ≤ 600000) (hs0 : s + 485 ≤ 7302250) (cont : ∀ (A' : pm_H) (c' s' : Nat), LX g xo h (E + 1) A' → c' ≤ c + 4 → s' ≤ s + 485 → J 2563 [some (.ref b), some (.ref xo), some (.ref h), some (.int i)] [] A' c' s') : J 1610 [some (.ref b), some (.ref xo), some (.ref h), some (.int i)] [] A c s := by
  obtain ⟨A00, K, nn, dn, q, w, e, v, f, mq, mv, mf, M, rfl, rfl, hI, hS, D, hv, hf, dj, hw, hE1, hE2, hR1, hR2, hg, he0, hN, hM, hB⟩ := hA
  have hu9 := hI.2.1
  unfold cw_W at hu9
  have hro : lw_ro b L xs b = some (L, xs) := if_pos rfl
  refine hC.1 36 1610 _ _ rfl _ _ _ _ _ ?_
  intro m1 em1
  have e1 : m1.toInt = i.toInt + 1 := by rw [em1]; exact pm_addc _ _ 1 rfl (by omega) (by omega)
  refine Exists.intro _ (Exists.intro _ (And.intro (Or.inr hro) (And.intro (by omega) ?_)))
  obtain ⟨a1, ha1⟩ : ∃ z9, z9 = xs m1.toInt.toNat := ⟨_, rfl⟩
  have m_a1 := em1
  rw [← ha1]
  intro m2 em2
  have e2 : m2.toInt = i.toInt + 2 := by rw [em2]; exact pm_addc _ _ 2 rfl (by omega) (by omega)
  refine Exists.intro _ (Exists.intro _ (And.intro (Or.inr hro) (And.intro (by omega) ?_)))
  obtain ⟨a2, ha2⟩ : ∃ z9, z9 = xs m2.toInt.toNat := ⟨_, rfl⟩
  have m_a2 := em2
  rw [← ha2]
  refine And.intro (Exists.intro _ (cw_o0 hI.1)) (Exists.intro _ (Exists.intro _ (Exists.intro _ (Exists.intro _ (And.intro (c_X10_alike hI hS a1 a2 ) (And.intro (lw_bnd rfl (by omega) (by omega) rfl) (fun r9 A9 h9 => ?_)))))))
  obtain ⟨v1621, f1621, rfl, hS1621, y1621, rfl, by1621⟩ := h9
  intro m3 em3
  have e3 : m3.toInt = i.toInt + 1 := by rw [em3]; exact pm_addc _ _ 1 rfl (by omega) (by omega)
  refine Exists.intro _ (Exists.intro _ (And.intro (Or.inr hro) (And.intro (by omega) ?_)))
  have ha1_3 : a1 = xs m3.toInt.toNat := by rw [ha1, em3, ← m_a1]
  rw [← ha1_3]
  intro m4 em4
  have e4 : m4.toInt = i.toInt + 2 := by rw [em4]; exact pm_addc _ _ 2 rfl (by omega) (by omega)
  refine Exists.intro _ (Exists.intro _ (And.intro (Or.inr hro) (And.intro (by omega) ?_)))
  have ha2_4 : a2 = xs m4.toInt.toNat := by rw [ha2, em4, ← m_a2]
  rw [← ha2_4]
  rw [cw_md D dj]
  refine And.intro (Exists.intro _ (md_o)) (Exists.intro _ (Exists.intro _ (Exists.intro _ (Exists.intro _ (And.intro (c_X11_alike D mv mf hv hf a1 a2 ) (And.intro (lw_bnd rfl (by omega) (by omega) rfl) (fun r9 A9 h9 => ?_)))))))
  obtain ⟨y1636, rfl, rfl, by1636⟩ := h9
  exact cont _ _ _ ⟨A00, K, nn, dn, q, w, e, v1621, f1621, mq, mv, mf, M, (cw_md D dj).symm, rfl, hI, hS1621, D, hv, hf, dj, fun j hj => by exact hw j hj, by omega, by omega, hR1, hR2, hg, (by omega), hN, hM, hB⟩ (by omega) (by omega)

set_option maxRecDepth 100000 in
set_option maxHeartbeats 2000000 in
theorem lx_b37 (hC : pm_Cl l g (lw_ro b L xs) 7 600000 7302250 lw_Rt bk_L_law J) {i : Int32} (hi : 0 ≤ i.toInt ∧ i.toInt + 6 ≤ L) (hL : L ≤ 3072) {E : Nat} (hE : E < 1000) {A : pm_H} {c s : Nat} (hA : LX g xo h E A) (hc : c + 4 ≤ 600000) (hs0 : s + 485 ≤ 7302250) (cont : ∀ (A' : pm_H) (c' s' : Nat), LX g xo h (E + 1) A' → c' ≤ c + 4 → s' ≤ s + 485 → J 2563 [some (.ref b), some (.ref xo), some (.ref h), some (.int i)] [] A' c' s') : J 1643 [some (.ref b), some (.ref xo), some (.ref h), some (.int i)] [] A c s := by
  obtain ⟨A00, K, nn, dn, q, w, e, v, f, mq, mv, mf, M, rfl, rfl, hI, hS, D, hv, hf, dj, hw, hE1, hE2, hR1, hR2, hg, he0, hN, hM, hB⟩ := hA
  have hu9 := hI.2.1
  unfold cw_W at hu9
  have hro : lw_ro b L xs b = some (L, xs) := if_pos rfl
  refine hC.1 37 1643 _ _ rfl _ _ _ _ _ ?_
  intro m1 em1
  have e1 : m1.toInt = i.toInt + 1 := by rw [em1]; exact pm_addc _ _ 1 rfl (by omega) (by omega)
  refine Exists.intro _ (Exists.intro _ (And.intro (Or.inr hro) (And.intro (by omega) ?_)))
  obtain ⟨a1, ha1⟩ : ∃ z9, z9 = xs m1.toInt.toNat := ⟨_, rfl⟩
  have m_a1 := em1
  rw [← ha1]
  intro m2 em2
  have e2 : m2.toInt = i.toInt + 2 := by rw [em2]; exact pm_addc _ _ 2 rfl (by omega) (by omega)
  refine Exists.intro _ (Exists.intro _ (And.intro (Or.inr hro) (And.intro (by omega) ?_)))
  obtain ⟨a2, ha2⟩ : ∃ z9, z9 = xs m2.toInt.toNat := ⟨_, rfl⟩
  have m_a2 := em2
  rw [← ha2]
  refine And.intro (Exists.intro _ (cw_o0 hI.1)) (Exists.intro _ (Exists.intro _ (Exists.intro _ (Exists.intro _ (And.intro (c_X10_even hI hS a1 a2 ) (And.intro (lw_bnd rfl (by omega) (by omega) rfl) (fun r9 A9 h9 => ?_)))))))
  obtain ⟨v1654, f1654, rfl, hS1654, y1654, rfl, by1654⟩ := h9
  intro m3 em3
  have e3 : m3.toInt = i.toInt + 1 := by rw [em3]; exact pm_addc _ _ 1 rfl (by omega) (by omega)
  refine Exists.intro _ (Exists.intro _ (And.intro (Or.inr hro) (And.intro (by omega) ?_)))
  have ha1_3 : a1 = xs m3.toInt.toNat := by rw [ha1, em3, ← m_a1]
  rw [← ha1_3]
  intro m4 em4
  have e4 : m4.toInt = i.toInt + 2 := by rw [em4]; exact pm_addc _ _ 2 rfl (by omega) (by omega)
  refine Exists.intro _ (Exists.intro _ (And.intro (Or.inr hro) (And.intro (by omega) ?_)))
  have ha2_4 : a2 = xs m4.toInt.toNat := by rw [ha2, em4, ← m_a2]
  rw [← ha2_4]
  rw [cw_md D dj]
  refine And.intro (Exists.intro _ (md_o)) (Exists.intro _ (Exists.intro _ (Exists.intro _ (Exists.intro _ (And.intro (c_X11_even D mv mf hv hf a1 a2 ) (And.intro (lw_bnd rfl (by omega) (by omega) rfl) (fun r9 A9 h9 => ?_)))))))
  obtain ⟨y1669, rfl, rfl, by1669⟩ := h9
  exact cont _ _ _ ⟨A00, K, nn, dn, q, w, e, v1654, f1654, mq, mv, mf, M, (cw_md D dj).symm, rfl, hI, hS1654, D, hv, hf, dj, fun j hj => by exact hw j hj, by omega, by omega, hR1, hR2, hg, (by omega), hN, hM, hB⟩ (by omega) (by omega)

set_option maxRecDepth 100000 in
set_option maxHeartbeats 2000000 in
theorem lx_b38 (hC : pm_Cl l g (lw_ro b L xs) 7 600000 7302250 lw_Rt bk_L_law J) {i : Int32} (hi : 0 ≤ i.toInt ∧ i.toInt + 6 ≤ L) (hL : L ≤ 3072) {E : Nat} (hE : E < 1000) {A : pm_H} {c s : Nat} (hA : LX g xo h E A) (hc : c + 4 ≤ 600000) (hs0 : s + 485 ≤ 7302250) (cont : ∀ (A' : pm_H) (c' s' : Nat), LX g xo h (E + 1) A' → c' ≤ c + 4 → s' ≤ s + 485 → J 2563 [some (.ref b), some (.ref xo), some (.ref h), some (.int i)] [] A' c' s') : J 1676 [some (.ref b), some (.ref xo), some (.ref h), some (.int i)] [] A c s := by
  obtain ⟨A00, K, nn, dn, q, w, e, v, f, mq, mv, mf, M, rfl, rfl, hI, hS, D, hv, hf, dj, hw, hE1, hE2, hR1, hR2, hg, he0, hN, hM, hB⟩ := hA
  have hu9 := hI.2.1
  unfold cw_W at hu9
  have hro : lw_ro b L xs b = some (L, xs) := if_pos rfl
  refine hC.1 38 1676 _ _ rfl _ _ _ _ _ ?_
  intro m1 em1
  have e1 : m1.toInt = i.toInt + 1 := by rw [em1]; exact pm_addc _ _ 1 rfl (by omega) (by omega)
  refine Exists.intro _ (Exists.intro _ (And.intro (Or.inr hro) (And.intro (by omega) ?_)))
  obtain ⟨a1, ha1⟩ : ∃ z9, z9 = xs m1.toInt.toNat := ⟨_, rfl⟩
  have m_a1 := em1
  rw [← ha1]
  intro m2 em2
  have e2 : m2.toInt = i.toInt + 2 := by rw [em2]; exact pm_addc _ _ 2 rfl (by omega) (by omega)
  refine Exists.intro _ (Exists.intro _ (And.intro (Or.inr hro) (And.intro (by omega) ?_)))
  obtain ⟨a2, ha2⟩ : ∃ z9, z9 = xs m2.toInt.toNat := ⟨_, rfl⟩
  have m_a2 := em2
  rw [← ha2]
  intro m3 em3
  have e3 : m3.toInt = i.toInt + 3 := by rw [em3]; exact pm_addc _ _ 3 rfl (by omega) (by omega)
  refine Exists.intro _ (Exists.intro _ (And.intro (Or.inr hro) (And.intro (by omega) ?_)))
  obtain ⟨a3, ha3⟩ : ∃ z9, z9 = xs m3.toInt.toNat := ⟨_, rfl⟩
  have m_a3 := em3
  rw [← ha3]
  refine And.intro (Exists.intro _ (cw_o0 hI.1)) (Exists.intro _ (Exists.intro _ (Exists.intro _ (Exists.intro _ (And.intro (c_X10_apart hI hS a1 a2 a3 ) (And.intro (lw_bnd rfl (by omega) (by omega) rfl) (fun r9 A9 h9 => ?_)))))))
  obtain ⟨v1692, f1692, rfl, hS1692, y1692, rfl, by1692⟩ := h9
  intro m4 em4
  have e4 : m4.toInt = i.toInt + 1 := by rw [em4]; exact pm_addc _ _ 1 rfl (by omega) (by omega)
  refine Exists.intro _ (Exists.intro _ (And.intro (Or.inr hro) (And.intro (by omega) ?_)))
  have ha1_4 : a1 = xs m4.toInt.toNat := by rw [ha1, em4, ← m_a1]
  rw [← ha1_4]
  intro m5 em5
  have e5 : m5.toInt = i.toInt + 2 := by rw [em5]; exact pm_addc _ _ 2 rfl (by omega) (by omega)
  refine Exists.intro _ (Exists.intro _ (And.intro (Or.inr hro) (And.intro (by omega) ?_)))
  have ha2_5 : a2 = xs m5.toInt.toNat := by rw [ha2, em5, ← m_a2]
  rw [← ha2_5]
  intro m6 em6
  have e6 : m6.toInt = i.toInt + 3 := by rw [em6]; exact pm_addc _ _ 3 rfl (by omega) (by omega)
  refine Exists.intro _ (Exists.intro _ (And.intro (Or.inr hro) (And.intro (by omega) ?_)))
  have ha3_6 : a3 = xs m6.toInt.toNat := by rw [ha3, em6, ← m_a3]
  rw [← ha3_6]
  rw [cw_md D dj]
  refine And.intro (Exists.intro _ (md_o)) (Exists.intro _ (Exists.intro _ (Exists.intro _ (Exists.intro _ (And.intro (c_X11_apart D mv mf hv hf a1 a2 a3 ) (And.intro (lw_bnd rfl (by omega) (by omega) rfl) (fun r9 A9 h9 => ?_)))))))
  obtain ⟨y1712, rfl, rfl, by1712⟩ := h9
  exact cont _ _ _ ⟨A00, K, nn, dn, q, w, e, v1692, f1692, mq, mv, mf, M, (cw_md D dj).symm, rfl, hI, hS1692, D, hv, hf, dj, fun j hj => by exact hw j hj, by omega, by omega, hR1, hR2, hg, (by omega), hN, hM, hB⟩ (by omega) (by omega)

set_option maxRecDepth 100000 in
set_option maxHeartbeats 2000000 in
theorem lx_b39 (hC : pm_Cl l g (lw_ro b L xs) 7 600000 7302250 lw_Rt bk_L_law J) {i : Int32} (hi : 0 ≤ i.toInt ∧ i.toInt + 6 ≤ L) (hL : L ≤ 3072) {E : Nat} (hE : E < 1000) {A : pm_H} {c s : Nat} (hA : LX g xo h E A) (hc : c + 4 ≤ 600000) (hs0 : s + 485 ≤ 7302250) (cont : ∀ (A' : pm_H) (c' s' : Nat), LX g xo h (E + 1) A' → c' ≤ c + 4 → s' ≤ s + 485 → J 2563 [some (.ref b), some (.ref xo), some (.ref h), some (.int i)] [] A' c' s') : J 1719 [some (.ref b), some (.ref xo), some (.ref h), some (.int i)] [] A c s := by
  obtain ⟨A00, K, nn, dn, q, w, e, v, f, mq, mv, mf, M, rfl, rfl, hI, hS, D, hv, hf, dj, hw, hE1, hE2, hR1, hR2, hg, he0, hN, hM, hB⟩ := hA
  have hu9 := hI.2.1
  unfold cw_W at hu9
  have hro : lw_ro b L xs b = some (L, xs) := if_pos rfl
  refine hC.1 39 1719 _ _ rfl _ _ _ _ _ ?_
  intro m1 em1
  have e1 : m1.toInt = i.toInt + 1 := by rw [em1]; exact pm_addc _ _ 1 rfl (by omega) (by omega)
  refine Exists.intro _ (Exists.intro _ (And.intro (Or.inr hro) (And.intro (by omega) ?_)))
  obtain ⟨a1, ha1⟩ : ∃ z9, z9 = xs m1.toInt.toNat := ⟨_, rfl⟩
  have m_a1 := em1
  rw [← ha1]
  intro m2 em2
  have e2 : m2.toInt = i.toInt + 2 := by rw [em2]; exact pm_addc _ _ 2 rfl (by omega) (by omega)
  refine Exists.intro _ (Exists.intro _ (And.intro (Or.inr hro) (And.intro (by omega) ?_)))
  obtain ⟨a2, ha2⟩ : ∃ z9, z9 = xs m2.toInt.toNat := ⟨_, rfl⟩
  have m_a2 := em2
  rw [← ha2]
  refine And.intro (Exists.intro _ (cw_o0 hI.1)) (Exists.intro _ (Exists.intro _ (Exists.intro _ (Exists.intro _ (And.intro (c_X10_reach hI hS a1 a2 ) (And.intro (lw_bnd rfl (by omega) (by omega) rfl) (fun r9 A9 h9 => ?_)))))))
  obtain ⟨v1730, f1730, rfl, hS1730, y1730, rfl, by1730⟩ := h9
  intro m3 em3
  have e3 : m3.toInt = i.toInt + 1 := by rw [em3]; exact pm_addc _ _ 1 rfl (by omega) (by omega)
  refine Exists.intro _ (Exists.intro _ (And.intro (Or.inr hro) (And.intro (by omega) ?_)))
  have ha1_3 : a1 = xs m3.toInt.toNat := by rw [ha1, em3, ← m_a1]
  rw [← ha1_3]
  intro m4 em4
  have e4 : m4.toInt = i.toInt + 2 := by rw [em4]; exact pm_addc _ _ 2 rfl (by omega) (by omega)
  refine Exists.intro _ (Exists.intro _ (And.intro (Or.inr hro) (And.intro (by omega) ?_)))
  have ha2_4 : a2 = xs m4.toInt.toNat := by rw [ha2, em4, ← m_a2]
  rw [← ha2_4]
  rw [cw_md D dj]
  refine And.intro (Exists.intro _ (md_o)) (Exists.intro _ (Exists.intro _ (Exists.intro _ (Exists.intro _ (And.intro (c_X11_reach D mv mf hv hf a1 a2 ) (And.intro (lw_bnd rfl (by omega) (by omega) rfl) (fun r9 A9 h9 => ?_)))))))
  obtain ⟨y1745, rfl, rfl, by1745⟩ := h9
  exact cont _ _ _ ⟨A00, K, nn, dn, q, w, e, v1730, f1730, mq, mv, mf, M, (cw_md D dj).symm, rfl, hI, hS1730, D, hv, hf, dj, fun j hj => by exact hw j hj, by omega, by omega, hR1, hR2, hg, (by omega), hN, hM, hB⟩ (by omega) (by omega)

set_option maxRecDepth 100000 in
set_option maxHeartbeats 2000000 in
theorem lx_b40 (hC : pm_Cl l g (lw_ro b L xs) 7 600000 7302250 lw_Rt bk_L_law J) {i : Int32} (hi : 0 ≤ i.toInt ∧ i.toInt + 6 ≤ L) (hL : L ≤ 3072) {E : Nat} (hE : E < 1000) {A : pm_H} {c s : Nat} (hA : LX g xo h E A) (hc : c + 4 ≤ 600000) (hs0 : s + 485 ≤ 7302250) (cont : ∀ (A' : pm_H) (c' s' : Nat), LX g xo h (E + 1) A' → c' ≤ c + 4 → s' ≤ s + 485 → J 2563 [some (.ref b), some (.ref xo), some (.ref h), some (.int i)] [] A' c' s') : J 1752 [some (.ref b), some (.ref xo), some (.ref h), some (.int i)] [] A c s := by
  obtain ⟨A00, K, nn, dn, q, w, e, v, f, mq, mv, mf, M, rfl, rfl, hI, hS, D, hv, hf, dj, hw, hE1, hE2, hR1, hR2, hg, he0, hN, hM, hB⟩ := hA
  have hu9 := hI.2.1
  unfold cw_W at hu9
  have hro : lw_ro b L xs b = some (L, xs) := if_pos rfl
  refine hC.1 40 1752 _ _ rfl _ _ _ _ _ ?_
  intro m1 em1
  have e1 : m1.toInt = i.toInt + 1 := by rw [em1]; exact pm_addc _ _ 1 rfl (by omega) (by omega)
  refine Exists.intro _ (Exists.intro _ (And.intro (Or.inr hro) (And.intro (by omega) ?_)))
  obtain ⟨a1, ha1⟩ : ∃ z9, z9 = xs m1.toInt.toNat := ⟨_, rfl⟩
  have m_a1 := em1
  rw [← ha1]
  intro m2 em2
  have e2 : m2.toInt = i.toInt + 2 := by rw [em2]; exact pm_addc _ _ 2 rfl (by omega) (by omega)
  refine Exists.intro _ (Exists.intro _ (And.intro (Or.inr hro) (And.intro (by omega) ?_)))
  obtain ⟨a2, ha2⟩ : ∃ z9, z9 = xs m2.toInt.toNat := ⟨_, rfl⟩
  have m_a2 := em2
  rw [← ha2]
  refine And.intro (Exists.intro _ (cw_o0 hI.1)) (Exists.intro _ (Exists.intro _ (Exists.intro _ (Exists.intro _ (And.intro (c_X10_reachBack hI hS a1 a2 ) (And.intro (lw_bnd rfl (by omega) (by omega) rfl) (fun r9 A9 h9 => ?_)))))))
  obtain ⟨v1763, f1763, rfl, hS1763, y1763, rfl, by1763⟩ := h9
  intro m3 em3
  have e3 : m3.toInt = i.toInt + 1 := by rw [em3]; exact pm_addc _ _ 1 rfl (by omega) (by omega)
  refine Exists.intro _ (Exists.intro _ (And.intro (Or.inr hro) (And.intro (by omega) ?_)))
  have ha1_3 : a1 = xs m3.toInt.toNat := by rw [ha1, em3, ← m_a1]
  rw [← ha1_3]
  intro m4 em4
  have e4 : m4.toInt = i.toInt + 2 := by rw [em4]; exact pm_addc _ _ 2 rfl (by omega) (by omega)
  refine Exists.intro _ (Exists.intro _ (And.intro (Or.inr hro) (And.intro (by omega) ?_)))
  have ha2_4 : a2 = xs m4.toInt.toNat := by rw [ha2, em4, ← m_a2]
  rw [← ha2_4]
  rw [cw_md D dj]
  refine And.intro (Exists.intro _ (md_o)) (Exists.intro _ (Exists.intro _ (Exists.intro _ (Exists.intro _ (And.intro (c_X11_reachBack D mv mf hv hf a1 a2 ) (And.intro (lw_bnd rfl (by omega) (by omega) rfl) (fun r9 A9 h9 => ?_)))))))
  obtain ⟨y1778, rfl, rfl, by1778⟩ := h9
  exact cont _ _ _ ⟨A00, K, nn, dn, q, w, e, v1763, f1763, mq, mv, mf, M, (cw_md D dj).symm, rfl, hI, hS1763, D, hv, hf, dj, fun j hj => by exact hw j hj, by omega, by omega, hR1, hR2, hg, (by omega), hN, hM, hB⟩ (by omega) (by omega)
end
