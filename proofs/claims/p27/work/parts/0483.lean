section
variable {l : Launch} {g : pm_G} {b L : Nat} {xs : Nat → Int32} {J : pm_J} {xo h : Nat}
set_option maxRecDepth 100000 in
set_option maxHeartbeats 2000000 in
theorem lx_b64 (hC : pm_Cl l g (lw_ro b L xs) 7 600000 7302250 lw_Rt bk_L_law J) {i : Int32} (hi : 0 ≤ i.toInt ∧ i.toInt + 6 ≤ L) (hL : L ≤ 3072) {E : Nat} (hE : E < 1000) {A : pm_H} {c s : Nat} (hA : LX g xo h E A) (hc : c + 4 ≤ 600000) (hs0 : s + 485 ≤ 7302250) (cont : ∀ (A' : pm_H) (c' s' : Nat), LX g xo h (E + 1) A' → c' ≤ c + 4 → s' ≤ s + 485 → J 2563 [some (.ref b), some (.ref xo), some (.ref h), some (.int i)] [] A' c' s') : J 2504 [some (.ref b), some (.ref xo), some (.ref h), some (.int i)] [] A c s := by
  obtain ⟨A00, K, nn, dn, q, w, e, v, f, mq, mv, mf, M, rfl, rfl, hI, hS, D, hv, hf, dj, hw, hE1, hE2, hR1, hR2, hg, he0, hN, hM, hB⟩ := hA
  have hu9 := hI.2.1
  unfold cw_W at hu9
  have hro : lw_ro b L xs b = some (L, xs) := if_pos rfl
  refine hC.1 64 2504 _ _ rfl _ _ _ _ _ ?_
  refine pq_aload_n1 (pq_iv0_10 ?_)
  refine And.intro (Exists.intro _ (cw_o0 hI.1)) (Exists.intro _ (Exists.intro _ (Exists.intro _ (Exists.intro _ (And.intro (F_X10_solve hI hS  ) (And.intro (lw_bnd rfl (by omega) (by omega) rfl) (fun r9 A9 h9 => ?_)))))))
  obtain ⟨w2505, e2505, v2505, f2505, rfl, hI2505, hS2505, hy2505, y2505, rfl, by2505⟩ := h9
  have fr2505 := by2505.2
  refine pq_id1 (pq_pop (pq_aload_n2 (pq_iv0_11 ?_)))
  rw [cw_md D dj]
  refine And.intro (Exists.intro _ (md_o)) (Exists.intro _ (Exists.intro _ (Exists.intro _ (Exists.intro _ (And.intro (F_X11_solve D mv mf hv hf  ) (And.intro (lw_bnd rfl (by omega) (by omega) rfl) (fun r9 A9 h9 => ?_)))))))
  obtain ⟨y2510, mv2510, mf2510, rfl, rfl, hv2510, hf2510, hx2510, hg2510_0, hg2510_1, by2510⟩ := h9
  refine pq_id1 (pq_pop (pq_goto ?_))
  exact cont _ _ _ ⟨A00, K, nn, dn, q, w2505, e2505, v2505, f2505, mq, mv2510, mf2510, M, (cw_md D dj).symm, rfl, hI2505, hS2505, D, hv2510, hf2510, dj, fun j hj => by rw [hy2505, hx2510]; exact hw j hj, by omega, by omega, (rp_fr hR1 (congrArg Int32.toInt (fr2505 nn (by omega)).1) (fr2505 (nn + 1) (by omega)).2 (fr2505 (nn + 2) (by omega)).2), (rp_fr hR2 (by omega) hg2510_0 hg2510_1), (pm_eqI (by have q9 := congrArg Int32.toInt hg; omega)), (by omega), (by omega), hM, (bd_fr hB (congrArg Int32.toInt (fr2505 nn (by omega)).1) (fr2505 (nn + 1) (by omega)).2 (fr2505 (nn + 3) (by omega)).2)⟩ (by omega) (by omega)

end
