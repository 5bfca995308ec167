section
variable {l : Launch} {g : pm_G} {b L : Nat} {xs : Nat → Int32} {J : pm_J}
set_option maxRecDepth 100000 in
set_option maxHeartbeats 4000000 in
theorem lx_body (hC : pm_Cl l g (lw_ro b L xs) 7 600000 7302250 lw_Rt bk_L_law J) (hL : L ≤ 3072) : J 0 (pm_l0 4 [.ref b]) [] (fun _ => none) 0 0 := by
  refine hC.1 0 0 _ _ rfl _ _ _ _ _ ?_
  refine And.intro rfl (fun x hx => ?_)
  have nd0 : (List.map Prod.fst ((x, pm_ob 10 (pm_df 10)) :: [])).Nodup := List.nodup_cons.mpr ⟨List.not_mem_nil, List.nodup_nil⟩
  refine Exists.intro _ (Exists.intro _ (Exists.intro _ (Exists.intro _ (And.intro (ci_X10_q (A := fun _ => none) nd0) (And.intro rfl (fun r9 A9 h9 => ?_))))))
  obtain ⟨rfl, q, hq0, rfl, hD, hfr⟩ := h9
  refine And.intro rfl (fun h hh => ?_)
  have nd2 : (List.map Prod.fst ((h, pm_ob 11 (pm_df 11)) :: [])).Nodup := List.nodup_cons.mpr ⟨List.not_mem_nil, List.nodup_nil⟩
  refine Exists.intro _ (Exists.intro _ (Exists.intro _ (Exists.intro _ (And.intro (ci_X11_init (A := cw (fun _ => none) g 1 40 40 q (fun _ => 0) cw_e0 (fun _ => 0) (fun _ _ => 0)) nd2) (And.intro rfl (fun r9 A9 h9 => ?_))))))
  obtain ⟨rfl, a1, a4, a7, a10, a13, a16, a19, a22, a25, a28, a31, a34, a37, a40, a43, a46, a49, a52, a55, a58, fw, rfl, nd3, hfw, g0, g1, g2, g3, g4, g5, g6, g7, g8, g9, g10, g11, g12, g13, g14, g15, g16, g17, g18, g19⟩ := h9
  obtain ⟨mq, hmd, D, -, hmf⟩ := md_init_of (A := cw (fun _ => none) g 1 40 40 q (fun _ => 0) cw_e0 (fun _ => 0) (fun _ _ => 0)) (ws := []) (g := g) nd3 g0 g1 g2 g3 g4 g5 g6 g7 g8 g9 g10 g11 g12 g13 g14 g15 g16 g17 g18 g19
  rw [hmd]
  have n1 := (gw_none hh).1
  have n2 : ∀ j, j < 20 → ∀ i, i < 44 → mq j ≠ q i := fun j hj => (gw_none (hmf j hj)).1
  have dj : ∀ i, i < 40 + 4 * 1 → q i ≠ h ∧ ∀ j, j < 20 → q i ≠ mq j := fun i hi => ⟨(n1 i hi).symm, fun j hj => (n2 j hj i hi).symm⟩
  have hLW : LX g x h 0 (md (al (cw (fun _ => none) g 1 40 40 q (fun _ => 0) cw_e0 (fun _ => 0) (fun _ _ => 0)) []) g h mq (fun _ => 0) (md_f0 fw)) :=
    ⟨fun _ => none, 1, 40, 40, q, fun _ => 0, cw_e0, fun _ => 0, fun _ _ => 0, mq, fun _ => 0, md_f0 fw, [], (cw_md D dj).symm, hq0, cw_I0 hD, cw_S0, D, md_V0, md_F0 fw, dj, fun j hj => by
      have e1 : cw_e0 15 j = 1 := by unfold cw_e0; rw [if_pos rfl, if_pos hj]
      have e2 : md_f0 fw 2 j = fw j := rfl
      rw [e1, e2, hfw j hj], by decide, by decide, rp_0 rfl, rp_0 rfl, rfl, rfl, by decide, fun _ h9 => absurd h9 List.not_mem_nil, fun j hj => (by have h9 : (j : Int) < 0 := hj; omega)⟩
  exact lx_loop hC hL (c0 := 65) (s0 := 20325) (by omega) (by omega) 601 0 0 _ _ _ rfl (by omega) hLW (by decide) (by decide) (by omega)
end
