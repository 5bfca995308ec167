section
variable {l : Launch} {g : pm_G}
set_option maxRecDepth 100000 in
set_option maxHeartbeats 2000000 in
theorem ci_X5_init {A : pm_H} {ws : List (Nat × va_E)} {a : Nat} (nd : (List.map Prod.fst ((a, pm_ob 5 (pm_df 5)) :: ws)).Nodup) : pm_Mt l g 11 1 5 150 [.ref a] (al A ((a, pm_ob 5 (pm_df 5)) :: ws)) (fun r A9 => r = none ∧ ∃ (a1 : Nat) (a4 : Nat) (a7 : Nat) (a10 : Nat) (a13 : Nat), A9 = al A ((a13, pm_ia g 30 (fun _ => 0)) :: (a10, pm_ia g 30 (fun _ => 0)) :: (a7, pm_ia g 30 (fun _ => 0)) :: (a4, pm_ia g 30 (fun _ => 0)) :: (a1, pm_ia g 30 (fun _ => 0)) :: (a, pm_ob 5 [.ref a1, .ref a4, .ref a7, .ref a10, .ref a13, .int 0]) :: ws) ∧ (List.map Prod.fst ((a13, pm_ia g 30 (fun _ => 0)) :: (a10, pm_ia g 30 (fun _ => 0)) :: (a7, pm_ia g 30 (fun _ => 0)) :: (a4, pm_ia g 30 (fun _ => 0)) :: (a1, pm_ia g 30 (fun _ => 0)) :: (a, pm_ob 5 [.ref a1, .ref a4, .ref a7, .ref a10, .ref a13, .int 0]) :: ws)).Nodup ∧ A a1 = none ∧ A a4 = none ∧ A a7 = none ∧ A a10 = none ∧ A a13 = none) := by
  refine mt_X5_init rfl (fun J hC => ?_)
  refine hC.1 0 0 _ _ rfl _ _ _ _ _ ?_
  refine And.intro rfl ?_
  refine And.intro rfl (And.intro rfl (fun a1 h1 => ?_))
  have g2 := al_none h1
  have nd2 : (List.map Prod.fst ((a1, pm_ia g 30 (fun _ => 0)) :: ((a, pm_ob 5 (pm_df 5)) :: ws))).Nodup := al_nd nd h1
  rw [show pm_up (al A ((a, pm_ob 5 (pm_df 5)) :: ws)) a1 (pm_ia g 30 (fun _ => 0)) = al A ((a1, pm_ia g 30 (fun _ => 0)) :: ((a, pm_ob 5 (pm_df 5)) :: ws)) from rfl]
  refine Exists.intro _ (And.intro (al_get (k := 1) nd2 rfl) (And.intro rfl ?_))
  rw [show pm_up (al A ((a1, pm_ia g 30 (fun _ => 0)) :: (a, pm_ob 5 (pm_df 5)) :: ws)) a (pm_ob 5 ((pm_df 5).set 0 (.ref a1))) = al A ((a1, pm_ia g 30 (fun _ => 0)) :: (a, pm_ob 5 [.ref a1, .null, .null, .null, .null, .int 0]) :: ws) from al_set (k := 1) nd2 rfl rfl]
  have nd3 : (List.map Prod.fst ((a1, pm_ia g 30 (fun _ => 0)) :: (a, pm_ob 5 [.ref a1, .null, .null, .null, .null, .int 0]) :: ws)).Nodup := nd2
  refine And.intro rfl (And.intro rfl (fun a4 h4 => ?_))
  have g5 := al_none h4
  have nd5 : (List.map Prod.fst ((a4, pm_ia g 30 (fun _ => 0)) :: ((a1, pm_ia g 30 (fun _ => 0)) :: (a, pm_ob 5 [.ref a1, .null, .null, .null, .null, .int 0]) :: ws))).Nodup := al_nd nd3 h4
  rw [show pm_up (al A ((a1, pm_ia g 30 (fun _ => 0)) :: (a, pm_ob 5 [.ref a1, .null, .null, .null, .null, .int 0]) :: ws)) a4 (pm_ia g 30 (fun _ => 0)) = al A ((a4, pm_ia g 30 (fun _ => 0)) :: ((a1, pm_ia g 30 (fun _ => 0)) :: (a, pm_ob 5 [.ref a1, .null, .null, .null, .null, .int 0]) :: ws)) from rfl]
  refine Exists.intro _ (And.intro (al_get (k := 2) nd5 rfl) (And.intro rfl ?_))
  rw [show pm_up (al A ((a4, pm_ia g 30 (fun _ => 0)) :: (a1, pm_ia g 30 (fun _ => 0)) :: (a, pm_ob 5 [.ref a1, .null, .null, .null, .null, .int 0]) :: ws)) a (pm_ob 5 (([.ref a1, .null, .null, .null, .null, .int 0] : List Value).set 1 (.ref a4))) = al A ((a4, pm_ia g 30 (fun _ => 0)) :: (a1, pm_ia g 30 (fun _ => 0)) :: (a, pm_ob 5 [.ref a1, .ref a4, .null, .null, .null, .int 0]) :: ws) from al_set (k := 2) nd5 rfl rfl]
  have nd6 : (List.map Prod.fst ((a4, pm_ia g 30 (fun _ => 0)) :: (a1, pm_ia g 30 (fun _ => 0)) :: (a, pm_ob 5 [.ref a1, .ref a4, .null, .null, .null, .int 0]) :: ws)).Nodup := nd5
  refine And.intro rfl (And.intro rfl (fun a7 h7 => ?_))
  have g8 := al_none h7
  have nd8 : (List.map Prod.fst ((a7, pm_ia g 30 (fun _ => 0)) :: ((a4, pm_ia g 30 (fun _ => 0)) :: (a1, pm_ia g 30 (fun _ => 0)) :: (a, pm_ob 5 [.ref a1, .ref a4, .null, .null, .null, .int 0]) :: ws))).Nodup := al_nd nd6 h7
  rw [show pm_up (al A ((a4, pm_ia g 30 (fun _ => 0)) :: (a1, pm_ia g 30 (fun _ => 0)) :: (a, pm_ob 5 [.ref a1, .ref a4, .null, .null, .null, .int 0]) :: ws)) a7 (pm_ia g 30 (fun _ => 0)) = al A ((a7, pm_ia g 30 (fun _ => 0)) :: ((a4, pm_ia g 30 (fun _ => 0)) :: (a1, pm_ia g 30 (fun _ => 0)) :: (a, pm_ob 5 [.ref a1, .ref a4, .null, .null, .null, .int 0]) :: ws)) from rfl]
  refine Exists.intro _ (And.intro (al_get (k := 3) nd8 rfl) (And.intro rfl ?_))
  rw [show pm_up (al A ((a7, pm_ia g 30 (fun _ => 0)) :: (a4, pm_ia g 30 (fun _ => 0)) :: (a1, pm_ia g 30 (fun _ => 0)) :: (a, pm_ob 5 [.ref a1, .ref a4, .null, .null, .null, .int 0]) :: ws)) a (pm_ob 5 (([.ref a1, .ref a4, .null, .null, .null, .int 0] : List Value).set 2 (.ref a7))) = al A ((a7, pm_ia g 30 (fun _ => 0)) :: (a4, pm_ia g 30 (fun _ => 0)) :: (a1, pm_ia g 30 (fun _ => 0)) :: (a, pm_ob 5 [.ref a1, .ref a4, .ref a7, .null, .null, .int 0]) :: ws) from al_set (k := 3) nd8 rfl rfl]
  have nd9 : (List.map Prod.fst ((a7, pm_ia g 30 (fun _ => 0)) :: (a4, pm_ia g 30 (fun _ => 0)) :: (a1, pm_ia g 30 (fun _ => 0)) :: (a, pm_ob 5 [.ref a1, .ref a4, .ref a7, .null, .null, .int 0]) :: ws)).Nodup := nd8
  refine And.intro rfl (And.intro rfl (fun a10 h10 => ?_))
  have g11 := al_none h10
  have nd11 : (List.map Prod.fst ((a10, pm_ia g 30 (fun _ => 0)) :: ((a7, pm_ia g 30 (fun _ => 0)) :: (a4, pm_ia g 30 (fun _ => 0)) :: (a1, pm_ia g 30 (fun _ => 0)) :: (a, pm_ob 5 [.ref a1, .ref a4, .ref a7, .null, .null, .int 0]) :: ws))).Nodup := al_nd nd9 h10
  rw [show pm_up (al A ((a7, pm_ia g 30 (fun _ => 0)) :: (a4, pm_ia g 30 (fun _ => 0)) :: (a1, pm_ia g 30 (fun _ => 0)) :: (a, pm_ob 5 [.ref a1, .ref a4, .ref a7, .null, .null, .int 0]) :: ws)) a10 (pm_ia g 30 (fun _ => 0)) = al A ((a10, pm_ia g 30 (fun _ => 0)) :: ((a7, pm_ia g 30 (fun _ => 0)) :: (a4, pm_ia g 30 (fun _ => 0)) :: (a1, pm_ia g 30 (fun _ => 0)) :: (a, pm_ob 5 [.ref a1, .ref a4, .ref a7, .null, .null, .int 0]) :: ws)) from rfl]
  refine Exists.intro _ (And.intro (al_get (k := 4) nd11 rfl) (And.intro rfl ?_))
  rw [show pm_up (al A ((a10, pm_ia g 30 (fun _ => 0)) :: (a7, pm_ia g 30 (fun _ => 0)) :: (a4, pm_ia g 30 (fun _ => 0)) :: (a1, pm_ia g 30 (fun _ => 0)) :: (a, pm_ob 5 [.ref a1, .ref a4, .ref a7, .null, .null, .int 0]) :: ws)) a (pm_ob 5 (([.ref a1, .ref a4, .ref a7, .null, .null, .int 0] : List Value).set 3 (.ref a10))) = al A ((a10, pm_ia g 30 (fun _ => 0)) :: (a7, pm_ia g 30 (fun _ => 0)) :: (a4, pm_ia g 30 (fun _ => 0)) :: (a1, pm_ia g 30 (fun _ => 0)) :: (a, pm_ob 5 [.ref a1, .ref a4, .ref a7, .ref a10, .null, .int 0]) :: ws) from al_set (k := 4) nd11 rfl rfl]
  have nd12 : (List.map Prod.fst ((a10, pm_ia g 30 (fun _ => 0)) :: (a7, pm_ia g 30 (fun _ => 0)) :: (a4, pm_ia g 30 (fun _ => 0)) :: (a1, pm_ia g 30 (fun _ => 0)) :: (a, pm_ob 5 [.ref a1, .ref a4, .ref a7, .ref a10, .null, .int 0]) :: ws)).Nodup := nd11
  refine And.intro rfl (And.intro rfl (fun a13 h13 => ?_))
  have g14 := al_none h13
  have nd14 : (List.map Prod.fst ((a13, pm_ia g 30 (fun _ => 0)) :: ((a10, pm_ia g 30 (fun _ => 0)) :: (a7, pm_ia g 30 (fun _ => 0)) :: (a4, pm_ia g 30 (fun _ => 0)) :: (a1, pm_ia g 30 (fun _ => 0)) :: (a, pm_ob 5 [.ref a1, .ref a4, .ref a7, .ref a10, .null, .int 0]) :: ws))).Nodup := al_nd nd12 h13
  rw [show pm_up (al A ((a10, pm_ia g 30 (fun _ => 0)) :: (a7, pm_ia g 30 (fun _ => 0)) :: (a4, pm_ia g 30 (fun _ => 0)) :: (a1, pm_ia g 30 (fun _ => 0)) :: (a, pm_ob 5 [.ref a1, .ref a4, .ref a7, .ref a10, .null, .int 0]) :: ws)) a13 (pm_ia g 30 (fun _ => 0)) = al A ((a13, pm_ia g 30 (fun _ => 0)) :: ((a10, pm_ia g 30 (fun _ => 0)) :: (a7, pm_ia g 30 (fun _ => 0)) :: (a4, pm_ia g 30 (fun _ => 0)) :: (a1, pm_ia g 30 (fun _ => 0)) :: (a, pm_ob 5 [.ref a1, .ref a4, .ref a7, .ref a10, .null, .int 0]) :: ws)) from rfl]
  refine Exists.intro _ (And.intro (al_get (k := 5) nd14 rfl) (And.intro rfl ?_))
  rw [show pm_up (al A ((a13, pm_ia g 30 (fun _ => 0)) :: (a10, pm_ia g 30 (fun _ => 0)) :: (a7, pm_ia g 30 (fun _ => 0)) :: (a4, pm_ia g 30 (fun _ => 0)) :: (a1, pm_ia g 30 (fun _ => 0)) :: (a, pm_ob 5 [.ref a1, .ref a4, .ref a7, .ref a10, .null, .int 0]) :: ws)) a (pm_ob 5 (([.ref a1, .ref a4, .ref a7, .ref a10, .null, .int 0] : List Value).set 4 (.ref a13))) = al A ((a13, pm_ia g 30 (fun _ => 0)) :: (a10, pm_ia g 30 (fun _ => 0)) :: (a7, pm_ia g 30 (fun _ => 0)) :: (a4, pm_ia g 30 (fun _ => 0)) :: (a1, pm_ia g 30 (fun _ => 0)) :: (a, pm_ob 5 [.ref a1, .ref a4, .ref a7, .ref a10, .ref a13, .int 0]) :: ws) from al_set (k := 5) nd14 rfl rfl]
  have nd15 : (List.map Prod.fst ((a13, pm_ia g 30 (fun _ => 0)) :: (a10, pm_ia g 30 (fun _ => 0)) :: (a7, pm_ia g 30 (fun _ => 0)) :: (a4, pm_ia g 30 (fun _ => 0)) :: (a1, pm_ia g 30 (fun _ => 0)) :: (a, pm_ob 5 [.ref a1, .ref a4, .ref a7, .ref a10, .ref a13, .int 0]) :: ws)).Nodup := nd14
  exact ⟨rfl, rfl, rfl, a1, a4, a7, a10, a13, rfl, nd15, g2.2, g5.2, g8.2, g11.2, g14.2⟩
end
