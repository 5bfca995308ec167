section
variable {l : Launch} {g : pm_G} {b L : Nat} {xs : Nat → Int32} {J : pm_J} {xo h : Nat}
set_option maxRecDepth 100000 in
set_option maxHeartbeats 2000000 in
theorem lb_19 (hC : pm_Cl l g (lw_ro b L xs) 7 600000 7302250 lw_Rt bk_L_law J) {i : Int32} (hi : 0 ≤ i.toInt ∧ i.toInt + 6 ≤ L) (hL : L ≤ 3072) {E : Nat} (hE : E < 1000) {A : pm_H} {c s : Nat} (hA : LW g xo h E A) (hc : c + 4 ≤ 600000) (hs0 : s + 485 ≤ 7302250) (cont : ∀ (A' : pm_H) (c' s' : Nat), LW g xo h (E + 1) A' → c' ≤ c + 4 → s' ≤ s + 485 → J 2563 [some (.ref b), some (.ref xo), some (.ref h), some (.int i)] [] A' c' s') : J 919 [some (.ref b), some (.ref xo), some (.ref h), some (.int i)] [] A c s := by
  obtain ⟨A00, K, nn, dn, q, w, e, v, f, mq, mv, mf, rfl, rfl, hI, hS, D, hv, hf, dj, hw, hE1, hE2⟩ := hA
  have hro : lw_ro b L xs b = some (L, xs) := if_pos rfl
  refine hC.1 19 919 _ _ rfl _ _ _ _ _ ?_
  intro m1 em1
  have e1 : m1.toInt = i.toInt + 1 := by rw [em1]; exact pm_addc _ _ 1 rfl (by omega) (by omega)
  refine Exists.intro _ (Exists.intro _ (And.intro (Or.inr hro) (And.intro (by omega) ?_)))
  refine And.intro (Exists.intro _ (cw_o0 hI.1)) (Exists.intro _ (Exists.intro _ (Exists.intro _ (Exists.intro _ (And.intro (c_X10_about hI hS (xs m1.toInt.toNat) ) (And.intro (lw_bnd rfl (by omega) (by omega) rfl) (fun r9 A9 h9 => ?_)))))))
  obtain ⟨v925, f925, rfl, hS925, y925, rfl, by925⟩ := h9
  intro m2 em2
  have e2 : m2.toInt = i.toInt + 1 := by rw [em2]; exact pm_addc _ _ 1 rfl (by omega) (by omega)
  refine Exists.intro _ (Exists.intro _ (And.intro (Or.inr hro) (And.intro (by omega) ?_)))
  rw [cw_md D dj]
  refine And.intro (Exists.intro _ (md_o)) (Exists.intro _ (Exists.intro _ (Exists.intro _ (Exists.intro _ (And.intro (c_X11_about D mv mf hv hf (xs m2.toInt.toNat) ) (And.intro (lw_bnd rfl (by omega) (by omega) rfl) (fun r9 A9 h9 => ?_)))))))
  obtain ⟨y935, rfl, rfl, by935⟩ := h9
  exact cont _ _ _ ⟨A00, K, nn, dn, q, w, e, v925, f925, mq, mv, mf, (cw_md D dj).symm, rfl, hI, hS925, D, hv, hf, dj, fun j hj => by exact hw j hj, by omega, by omega⟩ (by omega) (by omega)

set_option maxRecDepth 100000 in
set_option maxHeartbeats 2000000 in
theorem lb_20 (hC : pm_Cl l g (lw_ro b L xs) 7 600000 7302250 lw_Rt bk_L_law J) {i : Int32} (hi : 0 ≤ i.toInt ∧ i.toInt + 6 ≤ L) (hL : L ≤ 3072) {E : Nat} (hE : E < 1000) {A : pm_H} {c s : Nat} (hA : LW g xo h E A) (hc : c + 4 ≤ 600000) (hs0 : s + 485 ≤ 7302250) (cont : ∀ (A' : pm_H) (c' s' : Nat), LW g xo h (E + 1) A' → c' ≤ c + 4 → s' ≤ s + 485 → J 2563 [some (.ref b), some (.ref xo), some (.ref h), some (.int i)] [] A' c' s') : J 942 [some (.ref b), some (.ref xo), some (.ref h), some (.int i)] [] A c s := by
  obtain ⟨A00, K, nn, dn, q, w, e, v, f, mq, mv, mf, rfl, rfl, hI, hS, D, hv, hf, dj, hw, hE1, hE2⟩ := hA
  have hro : lw_ro b L xs b = some (L, xs) := if_pos rfl
  refine hC.1 20 942 _ _ rfl _ _ _ _ _ ?_
  intro m1 em1
  have e1 : m1.toInt = i.toInt + 1 := by rw [em1]; exact pm_addc _ _ 1 rfl (by omega) (by omega)
  refine Exists.intro _ (Exists.intro _ (And.intro (Or.inr hro) (And.intro (by omega) ?_)))
  intro m2 em2
  have e2 : m2.toInt = i.toInt + 2 := by rw [em2]; exact pm_addc _ _ 2 rfl (by omega) (by omega)
  refine Exists.intro _ (Exists.intro _ (And.intro (Or.inr hro) (And.intro (by omega) ?_)))
  refine And.intro (Exists.intro _ (cw_o0 hI.1)) (Exists.intro _ (Exists.intro _ (Exists.intro _ (Exists.intro _ (And.intro (c_X10_count hI hS (xs m1.toInt.toNat) (xs m2.toInt.toNat) ) (And.intro (lw_bnd rfl (by omega) (by omega) rfl) (fun r9 A9 h9 => ?_)))))))
  obtain ⟨v953, f953, rfl, hS953, y953, rfl, by953⟩ := h9
  intro m3 em3
  have e3 : m3.toInt = i.toInt + 1 := by rw [em3]; exact pm_addc _ _ 1 rfl (by omega) (by omega)
  refine Exists.intro _ (Exists.intro _ (And.intro (Or.inr hro) (And.intro (by omega) ?_)))
  intro m4 em4
  have e4 : m4.toInt = i.toInt + 2 := by rw [em4]; exact pm_addc _ _ 2 rfl (by omega) (by omega)
  refine Exists.intro _ (Exists.intro _ (And.intro (Or.inr hro) (And.intro (by omega) ?_)))
  rw [cw_md D dj]
  refine And.intro (Exists.intro _ (md_o)) (Exists.intro _ (Exists.intro _ (Exists.intro _ (Exists.intro _ (And.intro (c_X11_count D mv mf hv hf (xs m3.toInt.toNat) (xs m4.toInt.toNat) ) (And.intro (lw_bnd rfl (by omega) (by omega) rfl) (fun r9 A9 h9 => ?_)))))))
  obtain ⟨y968, rfl, rfl, by968⟩ := h9
  exact cont _ _ _ ⟨A00, K, nn, dn, q, w, e, v953, f953, mq, mv, mf, (cw_md D dj).symm, rfl, hI, hS953, D, hv, hf, dj, fun j hj => by exact hw j hj, by omega, by omega⟩ (by omega) (by omega)

set_option maxRecDepth 100000 in
set_option maxHeartbeats 2000000 in
theorem lb_21 (hC : pm_Cl l g (lw_ro b L xs) 7 600000 7302250 lw_Rt bk_L_law J) {i : Int32} (hi : 0 ≤ i.toInt ∧ i.toInt + 6 ≤ L) (hL : L ≤ 3072) {E : Nat} (hE : E < 1000) {A : pm_H} {c s : Nat} (hA : LW g xo h E A) (hc : c + 4 ≤ 600000) (hs0 : s + 485 ≤ 7302250) (cont : ∀ (A' : pm_H) (c' s' : Nat), LW g xo h (E + 1) A' → c' ≤ c + 4 → s' ≤ s + 485 → J 2563 [some (.ref b), some (.ref xo), some (.ref h), some (.int i)] [] A' c' s') : J 975 [some (.ref b), some (.ref xo), some (.ref h), some (.int i)] [] A c s := by
  obtain ⟨A00, K, nn, dn, q, w, e, v, f, mq, mv, mf, rfl, rfl, hI, hS, D, hv, hf, dj, hw, hE1, hE2⟩ := hA
  have hro : lw_ro b L xs b = some (L, xs) := if_pos rfl
  refine hC.1 21 975 _ _ rfl _ _ _ _ _ ?_
  intro m1 em1
  have e1 : m1.toInt = i.toInt + 1 := by rw [em1]; exact pm_addc _ _ 1 rfl (by omega) (by omega)
  refine Exists.intro _ (Exists.intro _ (And.intro (Or.inr hro) (And.intro (by omega) ?_)))
  intro m2 em2
  have e2 : m2.toInt = i.toInt + 2 := by rw [em2]; exact pm_addc _ _ 2 rfl (by omega) (by omega)
  refine Exists.intro _ (Exists.intro _ (And.intro (Or.inr hro) (And.intro (by omega) ?_)))
  refine And.intro (Exists.intro _ (cw_o0 hI.1)) (Exists.intro _ (Exists.intro _ (Exists.intro _ (Exists.intro _ (And.intro (c_X10_weight hI hS (xs m1.toInt.toNat) (xs m2.toInt.toNat) ) (And.intro (lw_bnd rfl (by omega) (by omega) rfl) (fun r9 A9 h9 => ?_)))))))
  obtain ⟨v986, f986, rfl, hS986, y986, rfl, by986⟩ := h9
  intro m3 em3
  have e3 : m3.toInt = i.toInt + 1 := by rw [em3]; exact pm_addc _ _ 1 rfl (by omega) (by omega)
  refine Exists.intro _ (Exists.intro _ (And.intro (Or.inr hro) (And.intro (by omega) ?_)))
  intro m4 em4
  have e4 : m4.toInt = i.toInt + 2 := by rw [em4]; exact pm_addc _ _ 2 rfl (by omega) (by omega)
  refine Exists.intro _ (Exists.intro _ (And.intro (Or.inr hro) (And.intro (by omega) ?_)))
  rw [cw_md D dj]
  refine And.intro (Exists.intro _ (md_o)) (Exists.intro _ (Exists.intro _ (Exists.intro _ (Exists.intro _ (And.intro (c_X11_weight D mv mf hv hf (xs m3.toInt.toNat) (xs m4.toInt.toNat) ) (And.intro (lw_bnd rfl (by omega) (by omega) rfl) (fun r9 A9 h9 => ?_)))))))
  obtain ⟨y1001, rfl, rfl, by1001⟩ := h9
  exact cont _ _ _ ⟨A00, K, nn, dn, q, w, e, v986, f986, mq, mv, mf, (cw_md D dj).symm, rfl, hI, hS986, D, hv, hf, dj, fun j hj => by exact hw j hj, by omega, by omega⟩ (by omega) (by omega)

set_option maxRecDepth 100000 in
set_option maxHeartbeats 2000000 in
theorem lb_22 (hC : pm_Cl l g (lw_ro b L xs) 7 600000 7302250 lw_Rt bk_L_law J) {i : Int32} (hi : 0 ≤ i.toInt ∧ i.toInt + 6 ≤ L) (hL : L ≤ 3072) {E : Nat} (hE : E < 1000) {A : pm_H} {c s : Nat} (hA : LW g xo h E A) (hc : c + 4 ≤ 600000) (hs0 : s + 485 ≤ 7302250) (cont : ∀ (A' : pm_H) (c' s' : Nat), LW g xo h (E + 1) A' → c' ≤ c + 4 → s' ≤ s + 485 → J 2563 [some (.ref b), some (.ref xo), some (.ref h), some (.int i)] [] A' c' s') : J 1008 [some (.ref b), some (.ref xo), some (.ref h), some (.int i)] [] A c s := by
  obtain ⟨A00, K, nn, dn, q, w, e, v, f, mq, mv, mf, rfl, rfl, hI, hS, D, hv, hf, dj, hw, hE1, hE2⟩ := hA
  have hro : lw_ro b L xs b = some (L, xs) := if_pos rfl
  refine hC.1 22 1008 _ _ rfl _ _ _ _ _ ?_
  intro m1 em1
  have e1 : m1.toInt = i.toInt + 1 := by rw [em1]; exact pm_addc _ _ 1 rfl (by omega) (by omega)
  refine Exists.intro _ (Exists.intro _ (And.intro (Or.inr hro) (And.intro (by omega) ?_)))
  intro m2 em2
  have e2 : m2.toInt = i.toInt + 2 := by rw [em2]; exact pm_addc _ _ 2 rfl (by omega) (by omega)
  refine Exists.intro _ (Exists.intro _ (And.intro (Or.inr hro) (And.intro (by omega) ?_)))
  refine And.intro (Exists.intro _ (cw_o0 hI.1)) (Exists.intro _ (Exists.intro _ (Exists.intro _ (Exists.intro _ (And.intro (c_X10_set hI hS (xs m1.toInt.toNat) (xs m2.toInt.toNat) ) (And.intro (lw_bnd rfl (by omega) (by omega) rfl) (fun r9 A9 h9 => ?_)))))))
  obtain ⟨v1019, f1019, rfl, hS1019, y1019, rfl, by1019⟩ := h9
  intro m3 em3
  have e3 : m3.toInt = i.toInt + 1 := by rw [em3]; exact pm_addc _ _ 1 rfl (by omega) (by omega)
  refine Exists.intro _ (Exists.intro _ (And.intro (Or.inr hro) (And.intro (by omega) ?_)))
  intro m4 em4
  have e4 : m4.toInt = i.toInt + 2 := by rw [em4]; exact pm_addc _ _ 2 rfl (by omega) (by omega)
  refine Exists.intro _ (Exists.intro _ (And.intro (Or.inr hro) (And.intro (by omega) ?_)))
  rw [cw_md D dj]
  refine And.intro (Exists.intro _ (md_o)) (Exists.intro _ (Exists.intro _ (Exists.intro _ (Exists.intro _ (And.intro (c_X11_set D mv mf hv hf (xs m3.toInt.toNat) (xs m4.toInt.toNat) ) (And.intro (lw_bnd rfl (by omega) (by omega) rfl) (fun r9 A9 h9 => ?_)))))))
  obtain ⟨y1034, rfl, rfl, by1034⟩ := h9
  exact cont _ _ _ ⟨A00, K, nn, dn, q, w, e, v1019, f1019, mq, mv, mf, (cw_md D dj).symm, rfl, hI, hS1019, D, hv, hf, dj, fun j hj => by exact hw j hj, by omega, by omega⟩ (by omega) (by omega)

set_option maxRecDepth 100000 in
set_option maxHeartbeats 2000000 in
theorem lb_23 (hC : pm_Cl l g (lw_ro b L xs) 7 600000 7302250 lw_Rt bk_L_law J) {i : Int32} (hi : 0 ≤ i.toInt ∧ i.toInt + 6 ≤ L) (hL : L ≤ 3072) {E : Nat} (hE : E < 1000) {A : pm_H} {c s : Nat} (hA : LW g xo h E A) (hc : c + 4 ≤ 600000) (hs0 : s + 485 ≤ 7302250) (cont : ∀ (A' : pm_H) (c' s' : Nat), LW g xo h (E + 1) A' → c' ≤ c + 4 → s' ≤ s + 485 → J 2563 [some (.ref b), some (.ref xo), some (.ref h), some (.int i)] [] A' c' s') : J 1041 [some (.ref b), some (.ref xo), some (.ref h), some (.int i)] [] A c s := by
  obtain ⟨A00, K, nn, dn, q, w, e, v, f, mq, mv, mf, rfl, rfl, hI, hS, D, hv, hf, dj, hw, hE1, hE2⟩ := hA
  have hro : lw_ro b L xs b = some (L, xs) := if_pos rfl
  refine hC.1 23 1041 _ _ rfl _ _ _ _ _ ?_
  intro m1 em1
  have e1 : m1.toInt = i.toInt + 1 := by rw [em1]; exact pm_addc _ _ 1 rfl (by omega) (by omega)
  refine Exists.intro _ (Exists.intro _ (And.intro (Or.inr hro) (And.intro (by omega) ?_)))
  intro m2 em2
  have e2 : m2.toInt = i.toInt + 2 := by rw [em2]; exact pm_addc _ _ 2 rfl (by omega) (by omega)
  refine Exists.intro _ (Exists.intro _ (And.intro (Or.inr hro) (And.intro (by omega) ?_)))
  intro m3 em3
  have e3 : m3.toInt = i.toInt + 3 := by rw [em3]; exact pm_addc _ _ 3 rfl (by omega) (by omega)
  refine Exists.intro _ (Exists.intro _ (And.intro (Or.inr hro) (And.intro (by omega) ?_)))
  refine And.intro (Exists.intro _ (cw_o0 hI.1)) (Exists.intro _ (Exists.intro _ (Exists.intro _ (Exists.intro _ (And.intro (c_X10_times hI hS (xs m1.toInt.toNat) (xs m2.toInt.toNat) (xs m3.toInt.toNat) ) (And.intro (lw_bnd rfl (by omega) (by omega) rfl) (fun r9 A9 h9 => ?_)))))))
  obtain ⟨v1057, f1057, rfl, hS1057, y1057, rfl, by1057⟩ := h9
  intro m4 em4
  have e4 : m4.toInt = i.toInt + 1 := by rw [em4]; exact pm_addc _ _ 1 rfl (by omega) (by omega)
  refine Exists.intro _ (Exists.intro _ (And.intro (Or.inr hro) (And.intro (by omega) ?_)))
  intro m5 em5
  have e5 : m5.toInt = i.toInt + 2 := by rw [em5]; exact pm_addc _ _ 2 rfl (by omega) (by omega)
  refine Exists.intro _ (Exists.intro _ (And.intro (Or.inr hro) (And.intro (by omega) ?_)))
  intro m6 em6
  have e6 : m6.toInt = i.toInt + 3 := by rw [em6]; exact pm_addc _ _ 3 rfl (by omega) (by omega)
  refine Exists.intro _ (Exists.intro _ (And.intro (Or.inr hro) (And.intro (by omega) ?_)))
  rw [cw_md D dj]
  refine And.intro (Exists.intro _ (md_o)) (Exists.intro _ (Exists.intro _ (Exists.intro _ (Exists.intro _ (And.intro (c_X11_times D mv mf hv hf (xs m4.toInt.toNat) (xs m5.toInt.toNat) (xs m6.toInt.toNat) ) (And.intro (lw_bnd rfl (by omega) (by omega) rfl) (fun r9 A9 h9 => ?_)))))))
  obtain ⟨y1077, rfl, rfl, by1077⟩ := h9
  exact cont _ _ _ ⟨A00, K, nn, dn, q, w, e, v1057, f1057, mq, mv, mf, (cw_md D dj).symm, rfl, hI, hS1057, D, hv, hf, dj, fun j hj => by exact hw j hj, by omega, by omega⟩ (by omega) (by omega)

set_option maxRecDepth 100000 in
set_option maxHeartbeats 2000000 in
theorem lb_24 (hC : pm_Cl l g (lw_ro b L xs) 7 600000 7302250 lw_Rt bk_L_law J) {i : Int32} (hi : 0 ≤ i.toInt ∧ i.toInt + 6 ≤ L) (hL : L ≤ 3072) {E : Nat} (hE : E < 1000) {A : pm_H} {c s : Nat} (hA : LW g xo h E A) (hc : c + 4 ≤ 600000) (hs0 : s + 485 ≤ 7302250) (cont : ∀ (A' : pm_H) (c' s' : Nat), LW g xo h (E + 1) A' → c' ≤ c + 4 → s' ≤ s + 485 → J 2563 [some (.ref b), some (.ref xo), some (.ref h), some (.int i)] [] A' c' s') : J 1084 [some (.ref b), some (.ref xo), some (.ref h), some (.int i)] [] A c s := by
  obtain ⟨A00, K, nn, dn, q, w, e, v, f, mq, mv, mf, rfl, rfl, hI, hS, D, hv, hf, dj, hw, hE1, hE2⟩ := hA
  have hro : lw_ro b L xs b = some (L, xs) := if_pos rfl
  refine hC.1 24 1084 _ _ rfl _ _ _ _ _ ?_
  intro m1 em1
  have e1 : m1.toInt = i.toInt + 1 := by rw [em1]; exact pm_addc _ _ 1 rfl (by omega) (by omega)
  refine Exists.intro _ (Exists.intro _ (And.intro (Or.inr hro) (And.intro (by omega) ?_)))
  intro m2 em2
  have e2 : m2.toInt = i.toInt + 2 := by rw [em2]; exact pm_addc _ _ 2 rfl (by omega) (by omega)
  refine Exists.intro _ (Exists.intro _ (And.intro (Or.inr hro) (And.intro (by omega) ?_)))
  intro m3 em3
  have e3 : m3.toInt = i.toInt + 3 := by rw [em3]; exact pm_addc _ _ 3 rfl (by omega) (by omega)
  refine Exists.intro _ (Exists.intro _ (And.intro (Or.inr hro) (And.intro (by omega) ?_)))
  refine And.intro (Exists.intro _ (cw_o0 hI.1)) (Exists.intro _ (Exists.intro _ (Exists.intro _ (Exists.intro _ (And.intro (c_X10_often hI hS (xs m1.toInt.toNat) (xs m2.toInt.toNat) (xs m3.toInt.toNat) ) (And.intro (lw_bnd rfl (by omega) (by omega) rfl) (fun r9 A9 h9 => ?_)))))))
  obtain ⟨v1100, f1100, rfl, hS1100, y1100, rfl, by1100⟩ := h9
  intro m4 em4
  have e4 : m4.toInt = i.toInt + 1 := by rw [em4]; exact pm_addc _ _ 1 rfl (by omega) (by omega)
  refine Exists.intro _ (Exists.intro _ (And.intro (Or.inr hro) (And.intro (by omega) ?_)))
  intro m5 em5
  have e5 : m5.toInt = i.toInt + 2 := by rw [em5]; exact pm_addc _ _ 2 rfl (by omega) (by omega)
  refine Exists.intro _ (Exists.intro _ (And.intro (Or.inr hro) (And.intro (by omega) ?_)))
  intro m6 em6
  have e6 : m6.toInt = i.toInt + 3 := by rw [em6]; exact pm_addc _ _ 3 rfl (by omega) (by omega)
  refine Exists.intro _ (Exists.intro _ (And.intro (Or.inr hro) (And.intro (by omega) ?_)))
  rw [cw_md D dj]
  refine And.intro (Exists.intro _ (md_o)) (Exists.intro _ (Exists.intro _ (Exists.intro _ (Exists.intro _ (And.intro (c_X11_often D mv mf hv hf (xs m4.toInt.toNat) (xs m5.toInt.toNat) (xs m6.toInt.toNat) ) (And.intro (lw_bnd rfl (by omega) (by omega) rfl) (fun r9 A9 h9 => ?_)))))))
  obtain ⟨y1120, rfl, rfl, by1120⟩ := h9
  exact cont _ _ _ ⟨A00, K, nn, dn, q, w, e, v1100, f1100, mq, mv, mf, (cw_md D dj).symm, rfl, hI, hS1100, D, hv, hf, dj, fun j hj => by exact hw j hj, by omega, by omega⟩ (by omega) (by omega)

set_option maxRecDepth 100000 in
set_option maxHeartbeats 2000000 in
theorem lb_25 (hC : pm_Cl l g (lw_ro b L xs) 7 600000 7302250 lw_Rt bk_L_law J) {i : Int32} (hi : 0 ≤ i.toInt ∧ i.toInt + 6 ≤ L) (hL : L ≤ 3072) {E : Nat} (hE : E < 1000) {A : pm_H} {c s : Nat} (hA : LW g xo h E A) (hc : c + 4 ≤ 600000) (hs0 : s + 485 ≤ 7302250) (cont : ∀ (A' : pm_H) (c' s' : Nat), LW g xo h (E + 1) A' → c' ≤ c + 4 → s' ≤ s + 485 → J 2563 [some (.ref b), some (.ref xo), some (.ref h), some (.int i)] [] A' c' s') : J 1127 [some (.ref b), some (.ref xo), some (.ref h), some (.int i)] [] A c s := by
  obtain ⟨A00, K, nn, dn, q, w, e, v, f, mq, mv, mf, rfl, rfl, hI, hS, D, hv, hf, dj, hw, hE1, hE2⟩ := hA
  have hro : lw_ro b L xs b = some (L, xs) := if_pos rfl
  refine hC.1 25 1127 _ _ rfl _ _ _ _ _ ?_
  intro m1 em1
  have e1 : m1.toInt = i.toInt + 1 := by rw [em1]; exact pm_addc _ _ 1 rfl (by omega) (by omega)
  refine Exists.intro _ (Exists.intro _ (And.intro (Or.inr hro) (And.intro (by omega) ?_)))
  intro m2 em2
  have e2 : m2.toInt = i.toInt + 2 := by rw [em2]; exact pm_addc _ _ 2 rfl (by omega) (by omega)
  refine Exists.intro _ (Exists.intro _ (And.intro (Or.inr hro) (And.intro (by omega) ?_)))
  intro m3 em3
  have e3 : m3.toInt = i.toInt + 3 := by rw [em3]; exact pm_addc _ _ 3 rfl (by omega) (by omega)
  refine Exists.intro _ (Exists.intro _ (And.intro (Or.inr hro) (And.intro (by omega) ?_)))
  intro m4 em4
  have e4 : m4.toInt = i.toInt + 4 := by rw [em4]; exact pm_addc _ _ 4 rfl (by omega) (by omega)
  refine Exists.intro _ (Exists.intro _ (And.intro (Or.inr hro) (And.intro (by omega) ?_)))
  refine And.intro (Exists.intro _ (cw_o0 hI.1)) (Exists.intro _ (Exists.intro _ (Exists.intro _ (Exists.intro _ (And.intro (c_X10_report hI hS (xs m1.toInt.toNat) (xs m2.toInt.toNat) (xs m3.toInt.toNat) (xs m4.toInt.toNat) ) (And.intro (lw_bnd rfl (by omega) (by omega) rfl) (fun r9 A9 h9 => ?_)))))))
  obtain ⟨v1148, f1148, rfl, hS1148, y1148, rfl, by1148⟩ := h9
  intro m5 em5
  have e5 : m5.toInt = i.toInt + 1 := by rw [em5]; exact pm_addc _ _ 1 rfl (by omega) (by omega)
  refine Exists.intro _ (Exists.intro _ (And.intro (Or.inr hro) (And.intro (by omega) ?_)))
  intro m6 em6
  have e6 : m6.toInt = i.toInt + 2 := by rw [em6]; exact pm_addc _ _ 2 rfl (by omega) (by omega)
  refine Exists.intro _ (Exists.intro _ (And.intro (Or.inr hro) (And.intro (by omega) ?_)))
  intro m7 em7
  have e7 : m7.toInt = i.toInt + 3 := by rw [em7]; exact pm_addc _ _ 3 rfl (by omega) (by omega)
  refine Exists.intro _ (Exists.intro _ (And.intro (Or.inr hro) (And.intro (by omega) ?_)))
  intro m8 em8
  have e8 : m8.toInt = i.toInt + 4 := by rw [em8]; exact pm_addc _ _ 4 rfl (by omega) (by omega)
  refine Exists.intro _ (Exists.intro _ (And.intro (Or.inr hro) (And.intro (by omega) ?_)))
  rw [cw_md D dj]
  refine And.intro (Exists.intro _ (md_o)) (Exists.intro _ (Exists.intro _ (Exists.intro _ (Exists.intro _ (And.intro (c_X11_report D mv mf hv hf (xs m5.toInt.toNat) (xs m6.toInt.toNat) (xs m7.toInt.toNat) (xs m8.toInt.toNat) ) (And.intro (lw_bnd rfl (by omega) (by omega) rfl) (fun r9 A9 h9 => ?_)))))))
  obtain ⟨y1173, rfl, rfl, by1173⟩ := h9
  exact cont _ _ _ ⟨A00, K, nn, dn, q, w, e, v1148, f1148, mq, mv, mf, (cw_md D dj).symm, rfl, hI, hS1148, D, hv, hf, dj, fun j hj => by exact hw j hj, by omega, by omega⟩ (by omega) (by omega)

set_option maxRecDepth 100000 in
set_option maxHeartbeats 2000000 in
theorem lb_26 (hC : pm_Cl l g (lw_ro b L xs) 7 600000 7302250 lw_Rt bk_L_law J) {i : Int32} (hi : 0 ≤ i.toInt ∧ i.toInt + 6 ≤ L) (hL : L ≤ 3072) {E : Nat} (hE : E < 1000) {A : pm_H} {c s : Nat} (hA : LW g xo h E A) (hc : c + 4 ≤ 600000) (hs0 : s + 485 ≤ 7302250) (cont : ∀ (A' : pm_H) (c' s' : Nat), LW g xo h (E + 1) A' → c' ≤ c + 4 → s' ≤ s + 485 → J 2563 [some (.ref b), some (.ref xo), some (.ref h), some (.int i)] [] A' c' s') : J 1180 [some (.ref b), some (.ref xo), some (.ref h), some (.int i)] [] A c s := by
  obtain ⟨A00, K, nn, dn, q, w, e, v, f, mq, mv, mf, rfl, rfl, hI, hS, D, hv, hf, dj, hw, hE1, hE2⟩ := hA
  have hro : lw_ro b L xs b = some (L, xs) := if_pos rfl
  refine hC.1 26 1180 _ _ rfl _ _ _ _ _ ?_
  intro m1 em1
  have e1 : m1.toInt = i.toInt + 1 := by rw [em1]; exact pm_addc _ _ 1 rfl (by omega) (by omega)
  refine Exists.intro _ (Exists.intro _ (And.intro (Or.inr hro) (And.intro (by omega) ?_)))
  intro m2 em2
  have e2 : m2.toInt = i.toInt + 2 := by rw [em2]; exact pm_addc _ _ 2 rfl (by omega) (by omega)
  refine Exists.intro _ (Exists.intro _ (And.intro (Or.inr hro) (And.intro (by omega) ?_)))
  intro m3 em3
  have e3 : m3.toInt = i.toInt + 3 := by rw [em3]; exact pm_addc _ _ 3 rfl (by omega) (by omega)
  refine Exists.intro _ (Exists.intro _ (And.intro (Or.inr hro) (And.intro (by omega) ?_)))
  intro m4 em4
  have e4 : m4.toInt = i.toInt + 4 := by rw [em4]; exact pm_addc _ _ 4 rfl (by omega) (by omega)
  refine Exists.intro _ (Exists.intro _ (And.intro (Or.inr hro) (And.intro (by omega) ?_)))
  refine And.intro (Exists.intro _ (cw_o0 hI.1)) (Exists.intro _ (Exists.intro _ (Exists.intro _ (Exists.intro _ (And.intro (c_X10_kth hI hS (xs m1.toInt.toNat) (xs m2.toInt.toNat) (xs m3.toInt.toNat) (xs m4.toInt.toNat) ) (And.intro (lw_bnd rfl (by omega) (by omega) rfl) (fun r9 A9 h9 => ?_)))))))
  obtain ⟨v1201, f1201, rfl, hS1201, y1201, rfl, by1201⟩ := h9
  intro m5 em5
  have e5 : m5.toInt = i.toInt + 1 := by rw [em5]; exact pm_addc _ _ 1 rfl (by omega) (by omega)
  refine Exists.intro _ (Exists.intro _ (And.intro (Or.inr hro) (And.intro (by omega) ?_)))
  intro m6 em6
  have e6 : m6.toInt = i.toInt + 2 := by rw [em6]; exact pm_addc _ _ 2 rfl (by omega) (by omega)
  refine Exists.intro _ (Exists.intro _ (And.intro (Or.inr hro) (And.intro (by omega) ?_)))
  intro m7 em7
  have e7 : m7.toInt = i.toInt + 3 := by rw [em7]; exact pm_addc _ _ 3 rfl (by omega) (by omega)
  refine Exists.intro _ (Exists.intro _ (And.intro (Or.inr hro) (And.intro (by omega) ?_)))
  intro m8 em8
  have e8 : m8.toInt = i.toInt + 4 := by rw [em8]; exact pm_addc _ _ 4 rfl (by omega) (by omega)
  refine Exists.intro _ (Exists.intro _ (And.intro (Or.inr hro) (And.intro (by omega) ?_)))
  rw [cw_md D dj]
  refine And.intro (Exists.intro _ (md_o)) (Exists.intro _ (Exists.intro _ (Exists.intro _ (Exists.intro _ (And.intro (c_X11_kth D mv mf hv hf (xs m5.toInt.toNat) (xs m6.toInt.toNat) (xs m7.toInt.toNat) (xs m8.toInt.toNat) ) (And.intro (lw_bnd rfl (by omega) (by omega) rfl) (fun r9 A9 h9 => ?_)))))))
  obtain ⟨y1226, mv1226, mf1226, rfl, rfl, hv1226, hf1226, hx1226, by1226⟩ := h9
  exact cont _ _ _ ⟨A00, K, nn, dn, q, w, e, v1201, f1201, mq, mv1226, mf1226, (cw_md D dj).symm, rfl, hI, hS1201, D, hv1226, hf1226, dj, fun j hj => by rw [hx1226]; exact hw j hj, by omega, by omega⟩ (by omega) (by omega)

set_option maxRecDepth 100000 in
set_option maxHeartbeats 2000000 in
theorem lb_27 (hC : pm_Cl l g (lw_ro b L xs) 7 600000 7302250 lw_Rt bk_L_law J) {i : Int32} (hi : 0 ≤ i.toInt ∧ i.toInt + 6 ≤ L) (hL : L ≤ 3072) {E : Nat} (hE : E < 1000) {A : pm_H} {c s : Nat} (hA : LW g xo h E A) (hc : c + 4 ≤ 600000) (hs0 : s + 485 ≤ 7302250) (cont : ∀ (A' : pm_H) (c' s' : Nat), LW g xo h (E + 1) A' → c' ≤ c + 4 → s' ≤ s + 485 → J 2563 [some (.ref b), some (.ref xo), some (.ref h), some (.int i)] [] A' c' s') : J 1233 [some (.ref b), some (.ref xo), some (.ref h), some (.int i)] [] A c s := by
  obtain ⟨A00, K, nn, dn, q, w, e, v, f, mq, mv, mf, rfl, rfl, hI, hS, D, hv, hf, dj, hw, hE1, hE2⟩ := hA
  have hro : lw_ro b L xs b = some (L, xs) := if_pos rfl
  refine hC.1 27 1233 _ _ rfl _ _ _ _ _ ?_
  intro m1 em1
  have e1 : m1.toInt = i.toInt + 1 := by rw [em1]; exact pm_addc _ _ 1 rfl (by omega) (by omega)
  refine Exists.intro _ (Exists.intro _ (And.intro (Or.inr hro) (And.intro (by omega) ?_)))
  intro m2 em2
  have e2 : m2.toInt = i.toInt + 2 := by rw [em2]; exact pm_addc _ _ 2 rfl (by omega) (by omega)
  refine Exists.intro _ (Exists.intro _ (And.intro (Or.inr hro) (And.intro (by omega) ?_)))
  intro m3 em3
  have e3 : m3.toInt = i.toInt + 3 := by rw [em3]; exact pm_addc _ _ 3 rfl (by omega) (by omega)
  refine Exists.intro _ (Exists.intro _ (And.intro (Or.inr hro) (And.intro (by omega) ?_)))
  refine And.intro (Exists.intro _ (cw_o0 hI.1)) (Exists.intro _ (Exists.intro _ (Exists.intro _ (Exists.intro _ (And.intro (c_X10_absent hI hS (xs m1.toInt.toNat) (xs m2.toInt.toNat) (xs m3.toInt.toNat) ) (And.intro (lw_bnd rfl (by omega) (by omega) rfl) (fun r9 A9 h9 => ?_)))))))
  obtain ⟨v1249, f1249, rfl, hS1249, y1249, rfl, by1249⟩ := h9
  intro m4 em4
  have e4 : m4.toInt = i.toInt + 1 := by rw [em4]; exact pm_addc _ _ 1 rfl (by omega) (by omega)
  refine Exists.intro _ (Exists.intro _ (And.intro (Or.inr hro) (And.intro (by omega) ?_)))
  intro m5 em5
  have e5 : m5.toInt = i.toInt + 2 := by rw [em5]; exact pm_addc _ _ 2 rfl (by omega) (by omega)
  refine Exists.intro _ (Exists.intro _ (And.intro (Or.inr hro) (And.intro (by omega) ?_)))
  intro m6 em6
  have e6 : m6.toInt = i.toInt + 3 := by rw [em6]; exact pm_addc _ _ 3 rfl (by omega) (by omega)
  refine Exists.intro _ (Exists.intro _ (And.intro (Or.inr hro) (And.intro (by omega) ?_)))
  rw [cw_md D dj]
  refine And.intro (Exists.intro _ (md_o)) (Exists.intro _ (Exists.intro _ (Exists.intro _ (Exists.intro _ (And.intro (c_X11_absent D mv mf hv hf (xs m4.toInt.toNat) (xs m5.toInt.toNat) (xs m6.toInt.toNat) ) (And.intro (lw_bnd rfl (by omega) (by omega) rfl) (fun r9 A9 h9 => ?_)))))))
  obtain ⟨y1269, rfl, rfl, by1269⟩ := h9
  exact cont _ _ _ ⟨A00, K, nn, dn, q, w, e, v1249, f1249, mq, mv, mf, (cw_md D dj).symm, rfl, hI, hS1249, D, hv, hf, dj, fun j hj => by exact hw j hj, by omega, by omega⟩ (by omega) (by omega)

set_option maxRecDepth 100000 in
set_option maxHeartbeats 2000000 in
theorem lb_28 (hC : pm_Cl l g (lw_ro b L xs) 7 600000 7302250 lw_Rt bk_L_law J) {i : Int32} (hi : 0 ≤ i.toInt ∧ i.toInt + 6 ≤ L) (hL : L ≤ 3072) {E : Nat} (hE : E < 1000) {A : pm_H} {c s : Nat} (hA : LW g xo h E A) (hc : c + 4 ≤ 600000) (hs0 : s + 485 ≤ 7302250) (cont : ∀ (A' : pm_H) (c' s' : Nat), LW g xo h (E + 1) A' → c' ≤ c + 4 → s' ≤ s + 485 → J 2563 [some (.ref b), some (.ref xo), some (.ref h), some (.int i)] [] A' c' s') : J 1276 [some (.ref b), some (.ref xo), some (.ref h), some (.int i)] [] A c s := by
  obtain ⟨A00, K, nn, dn, q, w, e, v, f, mq, mv, mf, rfl, rfl, hI, hS, D, hv, hf, dj, hw, hE1, hE2⟩ := hA
  have hro : lw_ro b L xs b = some (L, xs) := if_pos rfl
  refine hC.1 28 1276 _ _ rfl _ _ _ _ _ ?_
  intro m1 em1
  have e1 : m1.toInt = i.toInt + 1 := by rw [em1]; exact pm_addc _ _ 1 rfl (by omega) (by omega)
  refine Exists.intro _ (Exists.intro _ (And.intro (Or.inr hro) (And.intro (by omega) ?_)))
  intro m2 em2
  have e2 : m2.toInt = i.toInt + 2 := by rw [em2]; exact pm_addc _ _ 2 rfl (by omega) (by omega)
  refine Exists.intro _ (Exists.intro _ (And.intro (Or.inr hro) (And.intro (by omega) ?_)))
  intro m3 em3
  have e3 : m3.toInt = i.toInt + 3 := by rw [em3]; exact pm_addc _ _ 3 rfl (by omega) (by omega)
  refine Exists.intro _ (Exists.intro _ (And.intro (Or.inr hro) (And.intro (by omega) ?_)))
  intro m4 em4
  have e4 : m4.toInt = i.toInt + 4 := by rw [em4]; exact pm_addc _ _ 4 rfl (by omega) (by omega)
  refine Exists.intro _ (Exists.intro _ (And.intro (Or.inr hro) (And.intro (by omega) ?_)))
  intro m5 em5
  have e5 : m5.toInt = i.toInt + 5 := by rw [em5]; exact pm_addc _ _ 5 rfl (by omega) (by omega)
  refine Exists.intro _ (Exists.intro _ (And.intro (Or.inr hro) (And.intro (by omega) ?_)))
  refine And.intro (Exists.intro _ (cw_o0 hI.1)) (Exists.intro _ (Exists.intro _ (Exists.intro _ (Exists.intro _ (And.intro (c_X10_both hI hS (xs m1.toInt.toNat) (xs m2.toInt.toNat) (xs m3.toInt.toNat) (xs m4.toInt.toNat) (xs m5.toInt.toNat) ) (And.intro (lw_bnd rfl (by omega) (by omega) rfl) (fun r9 A9 h9 => ?_)))))))
  obtain ⟨v1302, f1302, rfl, hS1302, y1302, rfl, by1302⟩ := h9
  intro m6 em6
  have e6 : m6.toInt = i.toInt + 1 := by rw [em6]; exact pm_addc _ _ 1 rfl (by omega) (by omega)
  refine Exists.intro _ (Exists.intro _ (And.intro (Or.inr hro) (And.intro (by omega) ?_)))
  intro m7 em7
  have e7 : m7.toInt = i.toInt + 2 := by rw [em7]; exact pm_addc _ _ 2 rfl (by omega) (by omega)
  refine Exists.intro _ (Exists.intro _ (And.intro (Or.inr hro) (And.intro (by omega) ?_)))
  intro m8 em8
  have e8 : m8.toInt = i.toInt + 3 := by rw [em8]; exact pm_addc _ _ 3 rfl (by omega) (by omega)
  refine Exists.intro _ (Exists.intro _ (And.intro (Or.inr hro) (And.intro (by omega) ?_)))
  intro m9 em9
  have e9 : m9.toInt = i.toInt + 4 := by rw [em9]; exact pm_addc _ _ 4 rfl (by omega) (by omega)
  refine Exists.intro _ (Exists.intro _ (And.intro (Or.inr hro) (And.intro (by omega) ?_)))
  intro m10 em10
  have e10 : m10.toInt = i.toInt + 5 := by rw [em10]; exact pm_addc _ _ 5 rfl (by omega) (by omega)
  refine Exists.intro _ (Exists.intro _ (And.intro (Or.inr hro) (And.intro (by omega) ?_)))
  rw [cw_md D dj]
  refine And.intro (Exists.intro _ (md_o)) (Exists.intro _ (Exists.intro _ (Exists.intro _ (Exists.intro _ (And.intro (c_X11_both D mv mf hv hf (xs m6.toInt.toNat) (xs m7.toInt.toNat) (xs m8.toInt.toNat) (xs m9.toInt.toNat) (xs m10.toInt.toNat) ) (And.intro (lw_bnd rfl (by omega) (by omega) rfl) (fun r9 A9 h9 => ?_)))))))
  obtain ⟨y1332, rfl, rfl, by1332⟩ := h9
  exact cont _ _ _ ⟨A00, K, nn, dn, q, w, e, v1302, f1302, mq, mv, mf, (cw_md D dj).symm, rfl, hI, hS1302, D, hv, hf, dj, fun j hj => by exact hw j hj, by omega, by omega⟩ (by omega) (by omega)

set_option maxRecDepth 100000 in
set_option maxHeartbeats 2000000 in
theorem lb_29 (hC : pm_Cl l g (lw_ro b L xs) 7 600000 7302250 lw_Rt bk_L_law J) {i : Int32} (hi : 0 ≤ i.toInt ∧ i.toInt + 6 ≤ L) (hL : L ≤ 3072) {E : Nat} (hE : E < 1000) {A : pm_H} {c s : Nat} (hA : LW g xo h E A) (hc : c + 4 ≤ 600000) (hs0 : s + 485 ≤ 7302250) (cont : ∀ (A' : pm_H) (c' s' : Nat), LW g xo h (E + 1) A' → c' ≤ c + 4 → s' ≤ s + 485 → J 2563 [some (.ref b), some (.ref xo), some (.ref h), some (.int i)] [] A' c' s') : J 1339 [some (.ref b), some (.ref xo), some (.ref h), some (.int i)] [] A c s := by
  obtain ⟨A00, K, nn, dn, q, w, e, v, f, mq, mv, mf, rfl, rfl, hI, hS, D, hv, hf, dj, hw, hE1, hE2⟩ := hA
  have hro : lw_ro b L xs b = some (L, xs) := if_pos rfl
  refine hC.1 29 1339 _ _ rfl _ _ _ _ _ ?_
  intro m1 em1
  have e1 : m1.toInt = i.toInt + 1 := by rw [em1]; exact pm_addc _ _ 1 rfl (by omega) (by omega)
  refine Exists.intro _ (Exists.intro _ (And.intro (Or.inr hro) (And.intro (by omega) ?_)))
  intro m2 em2
  have e2 : m2.toInt = i.toInt + 2 := by rw [em2]; exact pm_addc _ _ 2 rfl (by omega) (by omega)
  refine Exists.intro _ (Exists.intro _ (And.intro (Or.inr hro) (And.intro (by omega) ?_)))
  intro m3 em3
  have e3 : m3.toInt = i.toInt + 3 := by rw [em3]; exact pm_addc _ _ 3 rfl (by omega) (by omega)
  refine Exists.intro _ (Exists.intro _ (And.intro (Or.inr hro) (And.intro (by omega) ?_)))
  refine And.intro (Exists.intro _ (cw_o0 hI.1)) (Exists.intro _ (Exists.intro _ (Exists.intro _ (Exists.intro _ (And.intro (c_X10_tally hI hS (xs m1.toInt.toNat) (xs m2.toInt.toNat) (xs m3.toInt.toNat) ) (And.intro (lw_bnd rfl (by omega) (by omega) rfl) (fun r9 A9 h9 => ?_)))))))
  obtain ⟨v1355, f1355, rfl, hS1355, y1355, rfl, by1355⟩ := h9
  intro m4 em4
  have e4 : m4.toInt = i.toInt + 1 := by rw [em4]; exact pm_addc _ _ 1 rfl (by omega) (by omega)
  refine Exists.intro _ (Exists.intro _ (And.intro (Or.inr hro) (And.intro (by omega) ?_)))
  intro m5 em5
  have e5 : m5.toInt = i.toInt + 2 := by rw [em5]; exact pm_addc _ _ 2 rfl (by omega) (by omega)
  refine Exists.intro _ (Exists.intro _ (And.intro (Or.inr hro) (And.intro (by omega) ?_)))
  intro m6 em6
  have e6 : m6.toInt = i.toInt + 3 := by rw [em6]; exact pm_addc _ _ 3 rfl (by omega) (by omega)
  refine Exists.intro _ (Exists.intro _ (And.intro (Or.inr hro) (And.intro (by omega) ?_)))
  rw [cw_md D dj]
  refine And.intro (Exists.intro _ (md_o)) (Exists.intro _ (Exists.intro _ (Exists.intro _ (Exists.intro _ (And.intro (c_X11_tally D mv mf hv hf (xs m4.toInt.toNat) (xs m5.toInt.toNat) (xs m6.toInt.toNat) ) (And.intro (lw_bnd rfl (by omega) (by omega) rfl) (fun r9 A9 h9 => ?_)))))))
  obtain ⟨y1375, rfl, rfl, by1375⟩ := h9
  exact cont _ _ _ ⟨A00, K, nn, dn, q, w, e, v1355, f1355, mq, mv, mf, (cw_md D dj).symm, rfl, hI, hS1355, D, hv, hf, dj, fun j hj => by exact hw j hj, by omega, by omega⟩ (by omega) (by omega)

set_option maxRecDepth 100000 in
set_option maxHeartbeats 2000000 in
theorem lb_30 (hC : pm_Cl l g (lw_ro b L xs) 7 600000 7302250 lw_Rt bk_L_law J) {i : Int32} (hi : 0 ≤ i.toInt ∧ i.toInt + 6 ≤ L) (hL : L ≤ 3072) {E : Nat} (hE : E < 1000) {A : pm_H} {c s : Nat} (hA : LW g xo h E A) (hc : c + 4 ≤ 600000) (hs0 : s + 485 ≤ 7302250) (cont : ∀ (A' : pm_H) (c' s' : Nat), LW g xo h (E + 1) A' → c' ≤ c + 4 → s' ≤ s + 485 → J 2563 [some (.ref b), some (.ref xo), some (.ref h), some (.int i)] [] A' c' s') : J 1382 [some (.ref b), some (.ref xo), some (.ref h), some (.int i)] [] A c s := by
  obtain ⟨A00, K, nn, dn, q, w, e, v, f, mq, mv, mf, rfl, rfl, hI, hS, D, hv, hf, dj, hw, hE1, hE2⟩ := hA
  have hro : lw_ro b L xs b = some (L, xs) := if_pos rfl
  refine hC.1 30 1382 _ _ rfl _ _ _ _ _ ?_
  intro m1 em1
  have e1 : m1.toInt = i.toInt + 1 := by rw [em1]; exact pm_addc _ _ 1 rfl (by omega) (by omega)
  refine Exists.intro _ (Exists.intro _ (And.intro (Or.inr hro) (And.intro (by omega) ?_)))
  intro m2 em2
  have e2 : m2.toInt = i.toInt + 2 := by rw [em2]; exact pm_addc _ _ 2 rfl (by omega) (by omega)
  refine Exists.intro _ (Exists.intro _ (And.intro (Or.inr hro) (And.intro (by omega) ?_)))
  refine And.intro (Exists.intro _ (cw_o0 hI.1)) (Exists.intro _ (Exists.intro _ (Exists.intro _ (Exists.intro _ (And.intro (c_X10_major hI hS (xs m1.toInt.toNat) (xs m2.toInt.toNat) ) (And.intro (lw_bnd rfl (by omega) (by omega) rfl) (fun r9 A9 h9 => ?_)))))))
  obtain ⟨v1393, f1393, rfl, hS1393, y1393, rfl, by1393⟩ := h9
  intro m3 em3
  have e3 : m3.toInt = i.toInt + 1 := by rw [em3]; exact pm_addc _ _ 1 rfl (by omega) (by omega)
  refine Exists.intro _ (Exists.intro _ (And.intro (Or.inr hro) (And.intro (by omega) ?_)))
  intro m4 em4
  have e4 : m4.toInt = i.toInt + 2 := by rw [em4]; exact pm_addc _ _ 2 rfl (by omega) (by omega)
  refine Exists.intro _ (Exists.intro _ (And.intro (Or.inr hro) (And.intro (by omega) ?_)))
  rw [cw_md D dj]
  refine And.intro (Exists.intro _ (md_o)) (Exists.intro _ (Exists.intro _ (Exists.intro _ (Exists.intro _ (And.intro (c_X11_major D mv mf hv hf (xs m3.toInt.toNat) (xs m4.toInt.toNat) ) (And.intro (lw_bnd rfl (by omega) (by omega) rfl) (fun r9 A9 h9 => ?_)))))))
  obtain ⟨y1408, rfl, rfl, by1408⟩ := h9
  exact cont _ _ _ ⟨A00, K, nn, dn, q, w, e, v1393, f1393, mq, mv, mf, (cw_md D dj).symm, rfl, hI, hS1393, D, hv, hf, dj, fun j hj => by exact hw j hj, by omega, by omega⟩ (by omega) (by omega)

set_option maxRecDepth 100000 in
set_option maxHeartbeats 2000000 in
theorem lb_31 (hC : pm_Cl l g (lw_ro b L xs) 7 600000 7302250 lw_Rt bk_L_law J) {i : Int32} (hi : 0 ≤ i.toInt ∧ i.toInt + 6 ≤ L) (hL : L ≤ 3072) {E : Nat} (hE : E < 1000) {A : pm_H} {c s : Nat} (hA : LW g xo h E A) (hc : c + 4 ≤ 600000) (hs0 : s + 485 ≤ 7302250) (cont : ∀ (A' : pm_H) (c' s' : Nat), LW g xo h (E + 1) A' → c' ≤ c + 4 → s' ≤ s + 485 → J 2563 [some (.ref b), some (.ref xo), some (.ref h), some (.int i)] [] A' c' s') : J 1415 [some (.ref b), some (.ref xo), some (.ref h), some (.int i)] [] A c s := by
  obtain ⟨A00, K, nn, dn, q, w, e, v, f, mq, mv, mf, rfl, rfl, hI, hS, D, hv, hf, dj, hw, hE1, hE2⟩ := hA
  have hro : lw_ro b L xs b = some (L, xs) := if_pos rfl
  refine hC.1 31 1415 _ _ rfl _ _ _ _ _ ?_
  intro m1 em1
  have e1 : m1.toInt = i.toInt + 1 := by rw [em1]; exact pm_addc _ _ 1 rfl (by omega) (by omega)
  refine Exists.intro _ (Exists.intro _ (And.intro (Or.inr hro) (And.intro (by omega) ?_)))
  intro m2 em2
  have e2 : m2.toInt = i.toInt + 2 := by rw [em2]; exact pm_addc _ _ 2 rfl (by omega) (by omega)
  refine Exists.intro _ (Exists.intro _ (And.intro (Or.inr hro) (And.intro (by omega) ?_)))
  intro m3 em3
  have e3 : m3.toInt = i.toInt + 3 := by rw [em3]; exact pm_addc _ _ 3 rfl (by omega) (by omega)
  refine Exists.intro _ (Exists.intro _ (And.intro (Or.inr hro) (And.intro (by omega) ?_)))
  refine And.intro (Exists.intro _ (cw_o0 hI.1)) (Exists.intro _ (Exists.intro _ (Exists.intro _ (Exists.intro _ (And.intro (c_X10_close hI hS (xs m1.toInt.toNat) (xs m2.toInt.toNat) (xs m3.toInt.toNat) ) (And.intro (lw_bnd rfl (by omega) (by omega) rfl) (fun r9 A9 h9 => ?_)))))))
  obtain ⟨v1431, f1431, rfl, hS1431, y1431, rfl, by1431⟩ := h9
  intro m4 em4
  have e4 : m4.toInt = i.toInt + 1 := by rw [em4]; exact pm_addc _ _ 1 rfl (by omega) (by omega)
  refine Exists.intro _ (Exists.intro _ (And.intro (Or.inr hro) (And.intro (by omega) ?_)))
  intro m5 em5
  have e5 : m5.toInt = i.toInt + 2 := by rw [em5]; exact pm_addc _ _ 2 rfl (by omega) (by omega)
  refine Exists.intro _ (Exists.intro _ (And.intro (Or.inr hro) (And.intro (by omega) ?_)))
  intro m6 em6
  have e6 : m6.toInt = i.toInt + 3 := by rw [em6]; exact pm_addc _ _ 3 rfl (by omega) (by omega)
  refine Exists.intro _ (Exists.intro _ (And.intro (Or.inr hro) (And.intro (by omega) ?_)))
  rw [cw_md D dj]
  refine And.intro (Exists.intro _ (md_o)) (Exists.intro _ (Exists.intro _ (Exists.intro _ (Exists.intro _ (And.intro (c_X11_close D mv mf hv hf (xs m4.toInt.toNat) (xs m5.toInt.toNat) (xs m6.toInt.toNat) ) (And.intro (lw_bnd rfl (by omega) (by omega) rfl) (fun r9 A9 h9 => ?_)))))))
  obtain ⟨y1451, rfl, rfl, by1451⟩ := h9
  exact cont _ _ _ ⟨A00, K, nn, dn, q, w, e, v1431, f1431, mq, mv, mf, (cw_md D dj).symm, rfl, hI, hS1431, D, hv, hf, dj, fun j hj => by exact hw j hj, by omega, by omega⟩ (by omega) (by omega)

set_option maxRecDepth 100000 in
set_option maxHeartbeats 2000000 in
theorem lb_32 (hC : pm_Cl l g (lw_ro b L xs) 7 600000 7302250 lw_Rt bk_L_law J) {i : Int32} (hi : 0 ≤ i.toInt ∧ i.toInt + 6 ≤ L) (hL : L ≤ 3072) {E : Nat} (hE : E < 1000) {A : pm_H} {c s : Nat} (hA : LW g xo h E A) (hc : c + 4 ≤ 600000) (hs0 : s + 485 ≤ 7302250) (cont : ∀ (A' : pm_H) (c' s' : Nat), LW g xo h (E + 1) A' → c' ≤ c + 4 → s' ≤ s + 485 → J 2563 [some (.ref b), some (.ref xo), some (.ref h), some (.int i)] [] A' c' s') : J 1458 [some (.ref b), some (.ref xo), some (.ref h), some (.int i)] [] A c s := by
  obtain ⟨A00, K, nn, dn, q, w, e, v, f, mq, mv, mf, rfl, rfl, hI, hS, D, hv, hf, dj, hw, hE1, hE2⟩ := hA
  have hro : lw_ro b L xs b = some (L, xs) := if_pos rfl
  refine hC.1 32 1458 _ _ rfl _ _ _ _ _ ?_
  intro m1 em1
  have e1 : m1.toInt = i.toInt + 1 := by rw [em1]; exact pm_addc _ _ 1 rfl (by omega) (by omega)
  refine Exists.intro _ (Exists.intro _ (And.intro (Or.inr hro) (And.intro (by omega) ?_)))
  intro m2 em2
  have e2 : m2.toInt = i.toInt + 2 := by rw [em2]; exact pm_addc _ _ 2 rfl (by omega) (by omega)
  refine Exists.intro _ (Exists.intro _ (And.intro (Or.inr hro) (And.intro (by omega) ?_)))
  refine And.intro (Exists.intro _ (cw_o0 hI.1)) (Exists.intro _ (Exists.intro _ (Exists.intro _ (Exists.intro _ (And.intro (c_X10_sides hI hS (xs m1.toInt.toNat) (xs m2.toInt.toNat) ) (And.intro (lw_bnd rfl (by omega) (by omega) rfl) (fun r9 A9 h9 => ?_)))))))
  obtain ⟨v1469, f1469, rfl, hS1469, y1469, rfl, by1469⟩ := h9
  intro m3 em3
  have e3 : m3.toInt = i.toInt + 1 := by rw [em3]; exact pm_addc _ _ 1 rfl (by omega) (by omega)
  refine Exists.intro _ (Exists.intro _ (And.intro (Or.inr hro) (And.intro (by omega) ?_)))
  intro m4 em4
  have e4 : m4.toInt = i.toInt + 2 := by rw [em4]; exact pm_addc _ _ 2 rfl (by omega) (by omega)
  refine Exists.intro _ (Exists.intro _ (And.intro (Or.inr hro) (And.intro (by omega) ?_)))
  rw [cw_md D dj]
  refine And.intro (Exists.intro _ (md_o)) (Exists.intro _ (Exists.intro _ (Exists.intro _ (Exists.intro _ (And.intro (c_X11_sides D mv mf hv hf (xs m3.toInt.toNat) (xs m4.toInt.toNat) ) (And.intro (lw_bnd rfl (by omega) (by omega) rfl) (fun r9 A9 h9 => ?_)))))))
  obtain ⟨y1484, rfl, rfl, by1484⟩ := h9
  exact cont _ _ _ ⟨A00, K, nn, dn, q, w, e, v1469, f1469, mq, mv, mf, (cw_md D dj).symm, rfl, hI, hS1469, D, hv, hf, dj, fun j hj => by exact hw j hj, by omega, by omega⟩ (by omega) (by omega)

set_option maxRecDepth 100000 in
set_option maxHeartbeats 2000000 in
theorem lb_33 (hC : pm_Cl l g (lw_ro b L xs) 7 600000 7302250 lw_Rt bk_L_law J) {i : Int32} (hi : 0 ≤ i.toInt ∧ i.toInt + 6 ≤ L) (hL : L ≤ 3072) {E : Nat} (hE : E < 1000) {A : pm_H} {c s : Nat} (hA : LW g xo h E A) (hc : c + 4 ≤ 600000) (hs0 : s + 485 ≤ 7302250) (cont : ∀ (A' : pm_H) (c' s' : Nat), LW g xo h (E + 1) A' → c' ≤ c + 4 → s' ≤ s + 485 → J 2563 [some (.ref b), some (.ref xo), some (.ref h), some (.int i)] [] A' c' s') : J 1491 [some (.ref b), some (.ref xo), some (.ref h), some (.int i)] [] A c s := by
  obtain ⟨A00, K, nn, dn, q, w, e, v, f, mq, mv, mf, rfl, rfl, hI, hS, D, hv, hf, dj, hw, hE1, hE2⟩ := hA
  have hro : lw_ro b L xs b = some (L, xs) := if_pos rfl
  refine hC.1 33 1491 _ _ rfl _ _ _ _ _ ?_
  intro m1 em1
  have e1 : m1.toInt = i.toInt + 1 := by rw [em1]; exact pm_addc _ _ 1 rfl (by omega) (by omega)
  refine Exists.intro _ (Exists.intro _ (And.intro (Or.inr hro) (And.intro (by omega) ?_)))
  intro m2 em2
  have e2 : m2.toInt = i.toInt + 2 := by rw [em2]; exact pm_addc _ _ 2 rfl (by omega) (by omega)
  refine Exists.intro _ (Exists.intro _ (And.intro (Or.inr hro) (And.intro (by omega) ?_)))
  refine And.intro (Exists.intro _ (cw_o0 hI.1)) (Exists.intro _ (Exists.intro _ (Exists.intro _ (Exists.intro _ (And.intro (c_X10_cover hI hS (xs m1.toInt.toNat) (xs m2.toInt.toNat) ) (And.intro (lw_bnd rfl (by omega) (by omega) rfl) (fun r9 A9 h9 => ?_)))))))
  obtain ⟨v1502, f1502, rfl, hS1502, y1502, rfl, by1502⟩ := h9
  intro m3 em3
  have e3 : m3.toInt = i.toInt + 1 := by rw [em3]; exact pm_addc _ _ 1 rfl (by omega) (by omega)
  refine Exists.intro _ (Exists.intro _ (And.intro (Or.inr hro) (And.intro (by omega) ?_)))
  intro m4 em4
  have e4 : m4.toInt = i.toInt + 2 := by rw [em4]; exact pm_addc _ _ 2 rfl (by omega) (by omega)
  refine Exists.intro _ (Exists.intro _ (And.intro (Or.inr hro) (And.intro (by omega) ?_)))
  rw [cw_md D dj]
  refine And.intro (Exists.intro _ (md_o)) (Exists.intro _ (Exists.intro _ (Exists.intro _ (Exists.intro _ (And.intro (c_X11_cover D mv mf hv hf (xs m3.toInt.toNat) (xs m4.toInt.toNat) ) (And.intro (lw_bnd rfl (by omega) (by omega) rfl) (fun r9 A9 h9 => ?_)))))))
  obtain ⟨y1517, rfl, rfl, by1517⟩ := h9
  exact cont _ _ _ ⟨A00, K, nn, dn, q, w, e, v1502, f1502, mq, mv, mf, (cw_md D dj).symm, rfl, hI, hS1502, D, hv, hf, dj, fun j hj => by exact hw j hj, by omega, by omega⟩ (by omega) (by omega)

set_option maxRecDepth 100000 in
set_option maxHeartbeats 2000000 in
theorem lb_34 (hC : pm_Cl l g (lw_ro b L xs) 7 600000 7302250 lw_Rt bk_L_law J) {i : Int32} (hi : 0 ≤ i.toInt ∧ i.toInt + 6 ≤ L) (hL : L ≤ 3072) {E : Nat} (hE : E < 1000) {A : pm_H} {c s : Nat} (hA : LW g xo h E A) (hc : c + 4 ≤ 600000) (hs0 : s + 485 ≤ 7302250) (cont : ∀ (A' : pm_H) (c' s' : Nat), LW g xo h (E + 1) A' → c' ≤ c + 4 → s' ≤ s + 485 → J 2563 [some (.ref b), some (.ref xo), some (.ref h), some (.int i)] [] A' c' s') : J 1524 [some (.ref b), some (.ref xo), some (.ref h), some (.int i)] [] A c s := by
  obtain ⟨A00, K, nn, dn, q, w, e, v, f, mq, mv, mf, rfl, rfl, hI, hS, D, hv, hf, dj, hw, hE1, hE2⟩ := hA
  have hro : lw_ro b L xs b = some (L, xs) := if_pos rfl
  refine hC.1 34 1524 _ _ rfl _ _ _ _ _ ?_
  intro m1 em1
  have e1 : m1.toInt = i.toInt + 1 := by rw [em1]; exact pm_addc _ _ 1 rfl (by omega) (by omega)
  refine Exists.intro _ (Exists.intro _ (And.intro (Or.inr hro) (And.intro (by omega) ?_)))
  intro m2 em2
  have e2 : m2.toInt = i.toInt + 2 := by rw [em2]; exact pm_addc _ _ 2 rfl (by omega) (by omega)
  refine Exists.intro _ (Exists.intro _ (And.intro (Or.inr hro) (And.intro (by omega) ?_)))
  intro m3 em3
  have e3 : m3.toInt = i.toInt + 3 := by rw [em3]; exact pm_addc _ _ 3 rfl (by omega) (by omega)
  refine Exists.intro _ (Exists.intro _ (And.intro (Or.inr hro) (And.intro (by omega) ?_)))
  refine And.intro (Exists.intro _ (cw_o0 hI.1)) (Exists.intro _ (Exists.intro _ (Exists.intro _ (Exists.intro _ (And.intro (c_X10_least hI hS (xs m1.toInt.toNat) (xs m2.toInt.toNat) (xs m3.toInt.toNat) ) (And.intro (lw_bnd rfl (by omega) (by omega) rfl) (fun r9 A9 h9 => ?_)))))))
  obtain ⟨v1540, f1540, rfl, hS1540, y1540, rfl, by1540⟩ := h9
  intro m4 em4
  have e4 : m4.toInt = i.toInt + 1 := by rw [em4]; exact pm_addc _ _ 1 rfl (by omega) (by omega)
  refine Exists.intro _ (Exists.intro _ (And.intro (Or.inr hro) (And.intro (by omega) ?_)))
  intro m5 em5
  have e5 : m5.toInt = i.toInt + 2 := by rw [em5]; exact pm_addc _ _ 2 rfl (by omega) (by omega)
  refine Exists.intro _ (Exists.intro _ (And.intro (Or.inr hro) (And.intro (by omega) ?_)))
  intro m6 em6
  have e6 : m6.toInt = i.toInt + 3 := by rw [em6]; exact pm_addc _ _ 3 rfl (by omega) (by omega)
  refine Exists.intro _ (Exists.intro _ (And.intro (Or.inr hro) (And.intro (by omega) ?_)))
  rw [cw_md D dj]
  refine And.intro (Exists.intro _ (md_o)) (Exists.intro _ (Exists.intro _ (Exists.intro _ (Exists.intro _ (And.intro (c_X11_least D mv mf hv hf (xs m4.toInt.toNat) (xs m5.toInt.toNat) (xs m6.toInt.toNat) ) (And.intro (lw_bnd rfl (by omega) (by omega) rfl) (fun r9 A9 h9 => ?_)))))))
  obtain ⟨y1560, mv1560, mf1560, rfl, rfl, hv1560, hf1560, hx1560, by1560⟩ := h9
  exact cont _ _ _ ⟨A00, K, nn, dn, q, w, e, v1540, f1540, mq, mv1560, mf1560, (cw_md D dj).symm, rfl, hI, hS1540, D, hv1560, hf1560, dj, fun j hj => by rw [hx1560]; exact hw j hj, by omega, by omega⟩ (by omega) (by omega)
end
