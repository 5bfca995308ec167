
theorem pm_lv_l0 {ls : Array Slot} {nL : Nat} {args : List Value} (hc : ∀ v ∈ args, v.category = 1) (h : lv_has ls nL (lv_args 0 args)) : pm_lv ls nL (pm_l0 nL args) := by
  refine ⟨h.1, h.2.1, fun q hq => h.2.2 q ?_⟩
  obtain ⟨j, w⟩ := q
  have h1 := ((pm_al_mem _ 0 j w).mp hq).2
  rw [Nat.sub_zero] at h1
  have h2 := pm_l0_mem args _ 0 j w hc h1
  rwa [Nat.zero_add] at h2
def pm_mask : List Bool → pm_L → pm_L
  | _, [] => []
  | [], L => L
  | true :: b, _ :: r => none :: pm_mask b r
  | false :: b, a :: r => a :: pm_mask b r
theorem pm_mask_gt : ∀ (b : List Bool) (L : pm_L) (j : Nat) (w : Value), pm_gt (pm_mask b L) j = some w → pm_gt L j = some w
  | _, [], _, _, h => by
    simp [pm_mask, pm_gt] at h
  | [], a :: r, j, w, h => h
  | true :: b, a :: r, 0, w, h => by simp [pm_mask, pm_gt] at h
  | true :: b, a :: r, j + 1, w, h => by
    simp only [pm_mask, pm_gt] at h ⊢
    exact pm_mask_gt b r j w h
  | false :: b, a :: r, 0, w, h => by
    simp only [pm_mask, pm_gt] at h ⊢
    exact h
  | false :: b, a :: r, j + 1, w, h => by
    simp only [pm_mask, pm_gt] at h ⊢
    exact pm_mask_gt b r j w h
theorem pm_lv_mask {ls : Array Slot} {nL : Nat} {L : pm_L} (b : List Bool) (h : pm_lv ls nL L) : pm_lv ls nL (pm_mask b L) := by
  refine ⟨h.1, h.2.1, fun q hq => h.2.2 q ?_⟩
  obtain ⟨j, w⟩ := q
  have h1 := ((pm_al_mem _ 0 j w).mp hq).2
  exact (pm_al_mem _ 0 j w).mpr ⟨Nat.zero_le _, pm_mask_gt b L _ w h1⟩

