section
variable {l : Launch} {g : pm_G} {A0 : pm_H} {h : Nat} {q : Nat → Nat}
set_option maxRecDepth 100000 in
set_option maxHeartbeats 2000000 in
theorem F_X11_laysNew (D : md_D h q) (v : Nat → Int32) (f : Nat → Nat → Int32) (hv : md_V v) (hf : md_F f) (x1 : Int32) (p0 : (v 2).toInt < 160) (p1 : 0 ≤ x1.toInt ∧ x1.toInt ≤ 23) (p2 : (v 3).toInt < 10000) : pm_Mt l g 186 1 0 0 [.ref h, .int x1] (md A0 g h q v f) (md_Qv A0 g h q f (fun v2 f2 => f2 0 = f 0 ∧ f2 1 = f 1 ∧ ((v2 0).toInt = (v 0).toInt ∧ (v2 1).toInt = (v 1).toInt ∧ (v2 4).toInt = (v 4).toInt ∧ (v2 6).toInt = (v 6).toInt ∧ (v2 2).toInt = (v 2).toInt + 1 ∧ (v2 3).toInt = (v 3).toInt + 1) ∧ (∀ (N : List pl_P) (g9 : Int32), (v 3).toInt = g9.toInt → rp (v 2) (f 5) (f 6) (N) → rp (v2 2) (f2 5) (f2 6) (N ++ [(x1, g9)])))) := by
  refine mt_X11_laysNew rfl (fun J hC => ?_)
  have hv9 := hv
  unfold md_V at hv9
  have rg_x1 := pm_rng x1
  refine hC.1 0 0 _ _ rfl _ _ _ _ _ ?_
  refine Exists.intro _ (And.intro md_o ?_)
  refine And.intro (Exists.intro _ md_o) (Exists.intro _ (Exists.intro _ (Exists.intro _ (Exists.intro _ (And.intro (F_X11_lays D v f hv hf x1 (v 3) (by omega) (by omega)) (And.intro rfl (fun r9 A9 h9 => ?_)))))))
  obtain ⟨v2, f2, rfl, rfl, hv2, hf2, hx2, hg2_0, hg2_1, by1⟩ := h9
  have hw2 : f2 2 = f 2 := hx2.trans rfl
  have hr2_0 : f2 0 = f 0 := hg2_0.trans rfl
  have hr2_1 : f2 1 = f 1 := hg2_1.trans rfl
  have hu3 := hv2
  unfold md_V at hu3
  have hb9 := by1.2
  refine Exists.intro _ (And.intro md_o ?_)
  have k1 : (1 : Int32).toInt = 1 := rfl
  intro m4 em_15
  try have e4 : m4.toInt = ((v2 3)).toInt + (1) := by rw [em_15]; exact pm_addc _ _ (1) rfl (by omega) (by omega)
  refine Exists.intro _ (And.intro md_o (And.intro rfl ?_))
  rw [md_p_given D]
  obtain ⟨v5, ev5⟩ : ∃ z9, z9 = upd v2 3 m4 := ⟨_, rfl⟩
  rw [← ev5]
  have ev5_0 : (v5 0).toInt = (v2 0).toInt := by rw [ev5]; rfl
  have ev5_1 : (v5 1).toInt = (v2 1).toInt := by rw [ev5]; rfl
  have ev5_2 : (v5 2).toInt = (v2 2).toInt := by rw [ev5]; rfl
  have ev5_3 : (v5 3).toInt = (m4).toInt := by rw [ev5]; rfl
  have ev5_4 : (v5 4).toInt = (v2 4).toInt := by rw [ev5]; rfl
  have ev5_5 : (v5 5).toInt = (v2 5).toInt := by rw [ev5]; rfl
  have ev5_6 : (v5 6).toInt = (v2 6).toInt := by rw [ev5]; rfl
  have ev5_7 : (v5 7).toInt = (v2 7).toInt := by rw [ev5]; rfl
  have pn_16 : v5 3 = m4 := by rw [ev5]; rfl
  have hv6 : md_V v5 := by unfold md_V; omega
  exact ⟨rfl, rfl, v5, f2, rfl, rfl, hv6, hf2, hw2, hr2_0, hr2_1, by first | omega | (dsimp only; omega) | trivial, by intro N g9 hg hN; rw [← pm_eqI hg]; exact rp_n (hb9 N hN) (by omega)⟩

end
