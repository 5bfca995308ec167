section
variable {l : Launch} {g : pm_G}
set_option maxRecDepth 100000 in
set_option maxHeartbeats 2000000 in
theorem ci_X4_init {A : pm_H} {ws : List (Nat × va_E)} {a : Nat} (nd : (List.map Prod.fst ((a, pm_ob 4 (pm_df 4)) :: ws)).Nodup) : pm_Mt l g 9 1 1 160 [.ref a] (al A ((a, pm_ob 4 (pm_df 4)) :: ws)) (fun r A9 => r = none ∧ ∃ (a1 : Nat), A9 = al A ((a1, pm_ia g 160 (fun _ => 0)) :: (a, pm_ob 4 [.ref a1, .int 0, .int 0]) :: ws) ∧ (List.map Prod.fst ((a1, pm_ia g 160 (fun _ => 0)) :: (a, pm_ob 4 [.ref a1, .int 0, .int 0]) :: ws)).Nodup ∧ A a1 = none) := by
  refine mt_X4_init rfl (fun J hC => ?_)
  refine hC.1 0 0 _ _ rfl _ _ _ _ _ ?_
  refine And.intro rfl ?_
  refine And.intro rfl (And.intro rfl (fun a1 h1 => ?_))
  have g2 := al_none h1
  have nd2 : (List.map Prod.fst ((a1, pm_ia g 160 (fun _ => 0)) :: ((a, pm_ob 4 (pm_df 4)) :: ws))).Nodup := al_nd nd h1
  rw [show pm_up (al A ((a, pm_ob 4 (pm_df 4)) :: ws)) a1 (pm_ia g 160 (fun _ => 0)) = al A ((a1, pm_ia g 160 (fun _ => 0)) :: ((a, pm_ob 4 (pm_df 4)) :: ws)) from rfl]
  refine Exists.intro _ (And.intro (al_get (k := 1) nd2 rfl) (And.intro rfl ?_))
  rw [show pm_up (al A ((a1, pm_ia g 160 (fun _ => 0)) :: (a, pm_ob 4 (pm_df 4)) :: ws)) a (pm_ob 4 ((pm_df 4).set 0 (.ref a1))) = al A ((a1, pm_ia g 160 (fun _ => 0)) :: (a, pm_ob 4 [.ref a1, .int 0, .int 0]) :: ws) from al_set (k := 1) nd2 rfl rfl]
  have nd3 : (List.map Prod.fst ((a1, pm_ia g 160 (fun _ => 0)) :: (a, pm_ob 4 [.ref a1, .int 0, .int 0]) :: ws)).Nodup := nd2
  exact ⟨rfl, rfl, rfl, a1, rfl, nd3, g2.2⟩

end
