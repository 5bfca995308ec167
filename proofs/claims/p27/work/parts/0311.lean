section
variable {l : Launch} {g : pm_G}
set_option maxRecDepth 100000 in
set_option maxHeartbeats 2000000 in
theorem ci_X2_init {A : pm_H} {ws : List (Nat × va_E)} {a : Nat} (nd : (List.map Prod.fst ((a, pm_ob 2 (pm_df 2)) :: ws)).Nodup) : pm_Mt l g 3 1 2 48 [.ref a] (al A ((a, pm_ob 2 (pm_df 2)) :: ws)) (fun r A9 => r = none ∧ ∃ (a1 : Nat) (a4 : Nat), A9 = al A ((a4, pm_ia g 24 (fun j => if j < 24 then (1 : Int32) else 0)) :: (a1, pm_ia g 24 (fun _ => 0)) :: (a, pm_ob 2 [.ref a1, .ref a4, .int 0, .int 0, .int 0, .int 0]) :: ws) ∧ (List.map Prod.fst ((a4, pm_ia g 24 (fun j => if j < 24 then (1 : Int32) else 0)) :: (a1, pm_ia g 24 (fun _ => 0)) :: (a, pm_ob 2 [.ref a1, .ref a4, .int 0, .int 0, .int 0, .int 0]) :: ws)).Nodup ∧ A a1 = none ∧ A a4 = none) := by
  refine mt_X2_init rfl (fun J hC => ?_)
  refine hC.1 0 0 _ _ rfl _ _ _ _ _ ?_
  refine And.intro rfl ?_
  refine And.intro rfl (And.intro rfl (fun a1 h1 => ?_))
  have g2 := al_none h1
  have nd2 : (List.map Prod.fst ((a1, pm_ia g 24 (fun _ => 0)) :: ((a, pm_ob 2 (pm_df 2)) :: ws))).Nodup := al_nd nd h1
  rw [show pm_up (al A ((a, pm_ob 2 (pm_df 2)) :: ws)) a1 (pm_ia g 24 (fun _ => 0)) = al A ((a1, pm_ia g 24 (fun _ => 0)) :: ((a, pm_ob 2 (pm_df 2)) :: ws)) from rfl]
  refine Exists.intro _ (And.intro (al_get (k := 1) nd2 rfl) (And.intro rfl ?_))
  rw [show pm_up (al A ((a1, pm_ia g 24 (fun _ => 0)) :: (a, pm_ob 2 (pm_df 2)) :: ws)) a (pm_ob 2 ((pm_df 2).set 0 (.ref a1))) = al A ((a1, pm_ia g 24 (fun _ => 0)) :: (a, pm_ob 2 [.ref a1, .null, .int 0, .int 0, .int 0, .int 0]) :: ws) from al_set (k := 1) nd2 rfl rfl]
  have nd3 : (List.map Prod.fst ((a1, pm_ia g 24 (fun _ => 0)) :: (a, pm_ob 2 [.ref a1, .null, .int 0, .int 0, .int 0, .int 0]) :: ws)).Nodup := nd2
  refine And.intro rfl (And.intro rfl (fun a4 h4 => ?_))
  have g5 := al_none h4
  have nd5 : (List.map Prod.fst ((a4, pm_ia g 24 (fun _ => 0)) :: ((a1, pm_ia g 24 (fun _ => 0)) :: (a, pm_ob 2 [.ref a1, .null, .int 0, .int 0, .int 0, .int 0]) :: ws))).Nodup := al_nd nd3 h4
  rw [show pm_up (al A ((a1, pm_ia g 24 (fun _ => 0)) :: (a, pm_ob 2 [.ref a1, .null, .int 0, .int 0, .int 0, .int 0]) :: ws)) a4 (pm_ia g 24 (fun _ => 0)) = al A ((a4, pm_ia g 24 (fun _ => 0)) :: ((a1, pm_ia g 24 (fun _ => 0)) :: (a, pm_ob 2 [.ref a1, .null, .int 0, .int 0, .int 0, .int 0]) :: ws)) from rfl]
  refine Exists.intro _ (And.intro (al_get (k := 2) nd5 rfl) (And.intro rfl ?_))
  rw [show pm_up (al A ((a4, pm_ia g 24 (fun _ => 0)) :: (a1, pm_ia g 24 (fun _ => 0)) :: (a, pm_ob 2 [.ref a1, .null, .int 0, .int 0, .int 0, .int 0]) :: ws)) a (pm_ob 2 (([.ref a1, .null, .int 0, .int 0, .int 0, .int 0] : List Value).set 1 (.ref a4))) = al A ((a4, pm_ia g 24 (fun _ => 0)) :: (a1, pm_ia g 24 (fun _ => 0)) :: (a, pm_ob 2 [.ref a1, .ref a4, .int 0, .int 0, .int 0, .int 0]) :: ws) from al_set (k := 2) nd5 rfl rfl]
  have nd6 : (List.map Prod.fst ((a4, pm_ia g 24 (fun _ => 0)) :: (a1, pm_ia g 24 (fun _ => 0)) :: (a, pm_ob 2 [.ref a1, .ref a4, .int 0, .int 0, .int 0, .int 0]) :: ws)).Nodup := nd5
  refine Exists.intro _ (And.intro (al_get (k := 2) nd6 rfl) ?_)
  refine Exists.intro _ (Exists.intro _ (Exists.intro _ (Exists.intro _ (And.intro (c_fill (al_get (k := 0) nd6 rfl) (by decide) (1)) (And.intro rfl (fun r9 A9 h9 => ?_))))))
  obtain ⟨rfl, rfl⟩ := h9
  rw [al_set (L := ((a4, pm_ia g 24 (fun _ => 0)) :: (a1, pm_ia g 24 (fun _ => 0)) :: (a, pm_ob 2 [.ref a1, .ref a4, .int 0, .int 0, .int 0, .int 0]) :: ws)) (L' := ((a4, pm_ia g 24 (fun j => if j < 24 then (1 : Int32) else 0)) :: (a1, pm_ia g 24 (fun _ => 0)) :: (a, pm_ob 2 [.ref a1, .ref a4, .int 0, .int 0, .int 0, .int 0]) :: ws)) (k := 0) nd6 rfl rfl]
  have nd7 : (List.map Prod.fst ((a4, pm_ia g 24 (fun j => if j < 24 then (1 : Int32) else 0)) :: (a1, pm_ia g 24 (fun _ => 0)) :: (a, pm_ob 2 [.ref a1, .ref a4, .int 0, .int 0, .int 0, .int 0]) :: ws)).Nodup := nd6
  exact ⟨rfl, rfl, rfl, a1, a4, rfl, nd7, g2.2, g5.2⟩

end
