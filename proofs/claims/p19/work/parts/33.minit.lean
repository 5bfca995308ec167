section
section
variable {l : Launch} {g : pm_G}
set_option maxRecDepth 100000 in
set_option maxHeartbeats 4000000 in
theorem ci_X11_init {A : pm_H} {ws : List (Nat × va_E)} {a : Nat} (nd : (List.map Prod.fst ((a, pm_ob 11 (pm_df 11)) :: ws)).Nodup) : pm_Mt l g 166 1 20 17096 [.ref a] (al A ((a, pm_ob 11 (pm_df 11)) :: ws)) (fun r A9 => r = none ∧ ∃ (a1 a4 a7 a10 a13 a16 a19 a22 a25 a28 a31 a34 a37 a40 a43 a46 a49 a52 a55 a58 : Nat) (fw : Nat → Int32), A9 = al A ((a58, pm_ia g 1449 (fun _ => 0)) :: (a55, pm_ia g 1449 (fun _ => 0)) :: (a52, pm_ia g 160 (fun _ => 0)) :: (a49, pm_ia g 24 (fun _ => 0)) :: (a46, pm_ia g 40 (fun _ => 0)) :: (a43, pm_ia g 40 (fun _ => 0)) :: (a40, pm_ia g 6400 (fun _ => 0)) :: (a37, pm_ia g 6400 (fun _ => 0)) :: (a34, pm_ia g 30 (fun _ => 0)) :: (a31, pm_ia g 30 (fun _ => 0)) :: (a28, pm_ia g 30 (fun _ => 0)) :: (a25, pm_ia g 30 (fun _ => 0)) :: (a22, pm_ia g 30 (fun _ => 0)) :: (a19, pm_ia g 160 (fun _ => 0)) :: (a16, pm_ia g 160 (fun _ => 0)) :: (a13, pm_ia g 160 (fun _ => 0)) :: (a10, pm_ia g 160 (fun _ => 0)) :: (a7, pm_ia g 24 fw) :: (a4, pm_ia g 160 (fun _ => 0)) :: (a1, pm_ia g 160 (fun _ => 0)) :: (a, pm_ob 11 [.ref a1, .ref a4, .ref a7, .ref a10, .ref a13, .ref a16, .ref a19, .int 0, .int 0, .int 0, .int 0, .int 0, .int 0, .ref a22, .ref a25, .ref a28, .ref a31, .int 0, .ref a34, .ref a37, .ref a40, .ref a43, .ref a46, .ref a49, .int 0, .ref a52, .ref a55, .ref a58]) :: ws) ∧ (List.map Prod.fst ((a58, pm_ia g 1449 (fun _ => 0)) :: (a55, pm_ia g 1449 (fun _ => 0)) :: (a52, pm_ia g 160 (fun _ => 0)) :: (a49, pm_ia g 24 (fun _ => 0)) :: (a46, pm_ia g 40 (fun _ => 0)) :: (a43, pm_ia g 40 (fun _ => 0)) :: (a40, pm_ia g 6400 (fun _ => 0)) :: (a37, pm_ia g 6400 (fun _ => 0)) :: (a34, pm_ia g 30 (fun _ => 0)) :: (a31, pm_ia g 30 (fun _ => 0)) :: (a28, pm_ia g 30 (fun _ => 0)) :: (a25, pm_ia g 30 (fun _ => 0)) :: (a22, pm_ia g 30 (fun _ => 0)) :: (a19, pm_ia g 160 (fun _ => 0)) :: (a16, pm_ia g 160 (fun _ => 0)) :: (a13, pm_ia g 160 (fun _ => 0)) :: (a10, pm_ia g 160 (fun _ => 0)) :: (a7, pm_ia g 24 fw) :: (a4, pm_ia g 160 (fun _ => 0)) :: (a1, pm_ia g 160 (fun _ => 0)) :: (a, pm_ob 11 [.ref a1, .ref a4, .ref a7, .ref a10, .ref a13, .ref a16, .ref a19, .int 0, .int 0, .int 0, .int 0, .int 0, .int 0, .ref a22, .ref a25, .ref a28, .ref a31, .int 0, .ref a34, .ref a37, .ref a40, .ref a43, .ref a46, .ref a49, .int 0, .ref a52, .ref a55, .ref a58]) :: ws)).Nodup ∧ (∀ j : Nat, j < 24 → fw j = 1) ∧ A a1 = none ∧ A a4 = none ∧ A a7 = none ∧ A a10 = none ∧ A a13 = none ∧ A a16 = none ∧ A a19 = none ∧ A a22 = none ∧ A a25 = none ∧ A a28 = none ∧ A a31 = none ∧ A a34 = none ∧ A a37 = none ∧ A a40 = none ∧ A a43 = none ∧ A a46 = none ∧ A a49 = none ∧ A a52 = none ∧ A a55 = none ∧ A a58 = none) := by
  refine mt_X11_init rfl (fun J hC => ?_)
  refine hC.1 0 0 _ _ rfl _ _ _ _ _ ?_
  refine And.intro rfl ?_
  refine And.intro rfl (And.intro rfl (fun a1 h1 => ?_))
  have g2 := al_none h1
  have nd2 : (List.map Prod.fst ((a1, pm_ia g 160 (fun _ => 0)) :: ((a, pm_ob 11 (pm_df 11)) :: ws))).Nodup := al_nd nd h1
  rw [show pm_up (al A ((a, pm_ob 11 (pm_df 11)) :: ws)) a1 (pm_ia g 160 (fun _ => 0)) = al A ((a1, pm_ia g 160 (fun _ => 0)) :: ((a, pm_ob 11 (pm_df 11)) :: ws)) from rfl]
  refine Exists.intro _ (And.intro (al_get (k := 1) nd2 rfl) (And.intro rfl ?_))
  rw [show pm_up (al A ((a1, pm_ia g 160 (fun _ => 0)) :: (a, pm_ob 11 (pm_df 11)) :: ws)) a (pm_ob 11 ((pm_df 11).set 0 (.ref a1))) = al A ((a1, pm_ia g 160 (fun _ => 0)) :: (a, pm_ob 11 [.ref a1, .null, .null, .null, .null, .null, .null, .int 0, .int 0, .int 0, .int 0, .int 0, .int 0, .null, .null, .null, .null, .int 0, .null, .null, .null, .null, .null, .null, .int 0, .null, .null, .null]) :: ws) from al_set (k := 1) nd2 rfl rfl]
  have nd3 : (List.map Prod.fst ((a1, pm_ia g 160 (fun _ => 0)) :: (a, pm_ob 11 [.ref a1, .null, .null, .null, .null, .null, .null, .int 0, .int 0, .int 0, .int 0, .int 0, .int 0, .null, .null, .null, .null, .int 0, .null, .null, .null, .null, .null, .null, .int 0, .null, .null, .null]) :: ws)).Nodup := nd2
  refine And.intro rfl (And.intro rfl (fun a4 h4 => ?_))
  have g5 := al_none h4
  have nd5 : (List.map Prod.fst ((a4, pm_ia g 160 (fun _ => 0)) :: ((a1, pm_ia g 160 (fun _ => 0)) :: (a, pm_ob 11 [.ref a1, .null, .null, .null, .null, .null, .null, .int 0, .int 0, .int 0, .int 0, .int 0, .int 0, .null, .null, .null, .null, .int 0, .null, .null, .null, .null, .null, .null, .int 0, .null, .null, .null]) :: ws))).Nodup := al_nd nd3 h4
  rw [show pm_up (al A ((a1, pm_ia g 160 (fun _ => 0)) :: (a, pm_ob 11 [.ref a1, .null, .null, .null, .null, .null, .null, .int 0, .int 0, .int 0, .int 0, .int 0, .int 0, .null, .null, .null, .null, .int 0, .null, .null, .null, .null, .null, .null, .int 0, .null, .null, .null]) :: ws)) a4 (pm_ia g 160 (fun _ => 0)) = al A ((a4, pm_ia g 160 (fun _ => 0)) :: ((a1, pm_ia g 160 (fun _ => 0)) :: (a, pm_ob 11 [.ref a1, .null, .null, .null, .null, .null, .null, .int 0, .int 0, .int 0, .int 0, .int 0, .int 0, .null, .null, .null, .null, .int 0, .null, .null, .null, .null, .null, .null, .int 0, .null, .null, .null]) :: ws)) from rfl]
  refine Exists.intro _ (And.intro (al_get (k := 2) nd5 rfl) (And.intro rfl ?_))
  rw [show pm_up (al A ((a4, pm_ia g 160 (fun _ => 0)) :: (a1, pm_ia g 160 (fun _ => 0)) :: (a, pm_ob 11 [.ref a1, .null, .null, .null, .null, .null, .null, .int 0, .int 0, .int 0, .int 0, .int 0, .int 0, .null, .null, .null, .null, .int 0, .null, .null, .null, .null, .null, .null, .int 0, .null, .null, .null]) :: ws)) a (pm_ob 11 (([.ref a1, .null, .null, .null, .null, .null, .null, .int 0, .int 0, .int 0, .int 0, .int 0, .int 0, .null, .null, .null, .null, .int 0, .null, .null, .null, .null, .null, .null, .int 0, .null, .null, .null] : List Value).set 1 (.ref a4))) = al A ((a4, pm_ia g 160 (fun _ => 0)) :: (a1, pm_ia g 160 (fun _ => 0)) :: (a, pm_ob 11 [.ref a1, .ref a4, .null, .null, .null, .null, .null, .int 0, .int 0, .int 0, .int 0, .int 0, .int 0, .null, .null, .null, .null, .int 0, .null, .null, .null, .null, .null, .null, .int 0, .null, .null, .null]) :: ws) from al_set (k := 2) nd5 rfl rfl]
  have nd6 : (List.map Prod.fst ((a4, pm_ia g 160 (fun _ => 0)) :: (a1, pm_ia g 160 (fun _ => 0)) :: (a, pm_ob 11 [.ref a1, .ref a4, .null, .null, .null, .null, .null, .int 0, .int 0, .int 0, .int 0, .int 0, .int 0, .null, .null, .null, .null, .int 0, .null, .null, .null, .null, .null, .null, .int 0, .null, .null, .null]) :: ws)).Nodup := nd5
  refine And.intro rfl (And.intro rfl (fun a7 h7 => ?_))
  have g8 := al_none h7
  have nd8 : (List.map Prod.fst ((a7, pm_ia g 24 (fun _ => 0)) :: ((a4, pm_ia g 160 (fun _ => 0)) :: (a1, pm_ia g 160 (fun _ => 0)) :: (a, pm_ob 11 [.ref a1, .ref a4, .null, .null, .null, .null, .null, .int 0, .int 0, .int 0, .int 0, .int 0, .int 0, .null, .null, .null, .null, .int 0, .null, .null, .null, .null, .null, .null, .int 0, .null, .null, .null]) :: ws))).Nodup := al_nd nd6 h7
  rw [show pm_up (al A ((a4, pm_ia g 160 (fun _ => 0)) :: (a1, pm_ia g 160 (fun _ => 0)) :: (a, pm_ob 11 [.ref a1, .ref a4, .null, .null, .null, .null, .null, .int 0, .int 0, .int 0, .int 0, .int 0, .int 0, .null, .null, .null, .null, .int 0, .null, .null, .null, .null, .null, .null, .int 0, .null, .null, .null]) :: ws)) a7 (pm_ia g 24 (fun _ => 0)) = al A ((a7, pm_ia g 24 (fun _ => 0)) :: ((a4, pm_ia g 160 (fun _ => 0)) :: (a1, pm_ia g 160 (fun _ => 0)) :: (a, pm_ob 11 [.ref a1, .ref a4, .null, .null, .null, .null, .null, .int 0, .int 0, .int 0, .int 0, .int 0, .int 0, .null, .null, .null, .null, .int 0, .null, .null, .null, .null, .null, .null, .int 0, .null, .null, .null]) :: ws)) from rfl]
  refine Exists.intro _ (And.intro (al_get (k := 3) nd8 rfl) (And.intro rfl ?_))
  rw [show pm_up (al A ((a7, pm_ia g 24 (fun _ => 0)) :: (a4, pm_ia g 160 (fun _ => 0)) :: (a1, pm_ia g 160 (fun _ => 0)) :: (a, pm_ob 11 [.ref a1, .ref a4, .null, .null, .null, .null, .null, .int 0, .int 0, .int 0, .int 0, .int 0, .int 0, .null, .null, .null, .null, .int 0, .null, .null, .null, .null, .null, .null, .int 0, .null, .null, .null]) :: ws)) a (pm_ob 11 (([.ref a1, .ref a4, .null, .null, .null, .null, .null, .int 0, .int 0, .int 0, .int 0, .int 0, .int 0, .null, .null, .null, .null, .int 0, .null, .null, .null, .null, .null, .null, .int 0, .null, .null, .null] : List Value).set 2 (.ref a7))) = al A ((a7, pm_ia g 24 (fun _ => 0)) :: (a4, pm_ia g 160 (fun _ => 0)) :: (a1, pm_ia g 160 (fun _ => 0)) :: (a, pm_ob 11 [.ref a1, .ref a4, .ref a7, .null, .null, .null, .null, .int 0, .int 0, .int 0, .int 0, .int 0, .int 0, .null, .null, .null, .null, .int 0, .null, .null, .null, .null, .null, .null, .int 0, .null, .null, .null]) :: ws) from al_set (k := 3) nd8 rfl rfl]
  have nd9 : (List.map Prod.fst ((a7, pm_ia g 24 (fun _ => 0)) :: (a4, pm_ia g 160 (fun _ => 0)) :: (a1, pm_ia g 160 (fun _ => 0)) :: (a, pm_ob 11 [.ref a1, .ref a4, .ref a7, .null, .null, .null, .null, .int 0, .int 0, .int 0, .int 0, .int 0, .int 0, .null, .null, .null, .null, .int 0, .null, .null, .null, .null, .null, .null, .int 0, .null, .null, .null]) :: ws)).Nodup := nd8
  refine And.intro rfl (And.intro rfl (fun a10 h10 => ?_))
  have g11 := al_none h10
  have nd11 : (List.map Prod.fst ((a10, pm_ia g 160 (fun _ => 0)) :: ((a7, pm_ia g 24 (fun _ => 0)) :: (a4, pm_ia g 160 (fun _ => 0)) :: (a1, pm_ia g 160 (fun _ => 0)) :: (a, pm_ob 11 [.ref a1, .ref a4, .ref a7, .null, .null, .null, .null, .int 0, .int 0, .int 0, .int 0, .int 0, .int 0, .null, .null, .null, .null, .int 0, .null, .null, .null, .null, .null, .null, .int 0, .null, .null, .null]) :: ws))).Nodup := al_nd nd9 h10
  rw [show pm_up (al A ((a7, pm_ia g 24 (fun _ => 0)) :: (a4, pm_ia g 160 (fun _ => 0)) :: (a1, pm_ia g 160 (fun _ => 0)) :: (a, pm_ob 11 [.ref a1, .ref a4, .ref a7, .null, .null, .null, .null, .int 0, .int 0, .int 0, .int 0, .int 0, .int 0, .null, .null, .null, .null, .int 0, .null, .null, .null, .null, .null, .null, .int 0, .null, .null, .null]) :: ws)) a10 (pm_ia g 160 (fun _ => 0)) = al A ((a10, pm_ia g 160 (fun _ => 0)) :: ((a7, pm_ia g 24 (fun _ => 0)) :: (a4, pm_ia g 160 (fun _ => 0)) :: (a1, pm_ia g 160 (fun _ => 0)) :: (a, pm_ob 11 [.ref a1, .ref a4, .ref a7, .null, .null, .null, .null, .int 0, .int 0, .int 0, .int 0, .int 0, .int 0, .null, .null, .null, .null, .int 0, .null, .null, .null, .null, .null, .null, .int 0, .null, .null, .null]) :: ws)) from rfl]
  refine Exists.intro _ (And.intro (al_get (k := 4) nd11 rfl) (And.intro rfl ?_))
  rw [show pm_up (al A ((a10, pm_ia g 160 (fun _ => 0)) :: (a7, pm_ia g 24 (fun _ => 0)) :: (a4, pm_ia g 160 (fun _ => 0)) :: (a1, pm_ia g 160 (fun _ => 0)) :: (a, pm_ob 11 [.ref a1, .ref a4, .ref a7, .null, .null, .null, .null, .int 0, .int 0, .int 0, .int 0, .int 0, .int 0, .null, .null, .null, .null, .int 0, .null, .null, .null, .null, .null, .null, .int 0, .null, .null, .null]) :: ws)) a (pm_ob 11 (([.ref a1, .ref a4, .ref a7, .null, .null, .null, .null, .int 0, .int 0, .int 0, .int 0, .int 0, .int 0, .null, .null, .null, .null, .int 0, .null, .null, .null, .null, .null, .null, .int 0, .null, .null, .null] : List Value).set 3 (.ref a10))) = al A ((a10, pm_ia g 160 (fun _ => 0)) :: (a7, pm_ia g 24 (fun _ => 0)) :: (a4, pm_ia g 160 (fun _ => 0)) :: (a1, pm_ia g 160 (fun _ => 0)) :: (a, pm_ob 11 [.ref a1, .ref a4, .ref a7, .ref a10, .null, .null, .null, .int 0, .int 0, .int 0, .int 0, .int 0, .int 0, .null, .null, .null, .null, .int 0, .null, .null, .null, .null, .null, .null, .int 0, .null, .null, .null]) :: ws) from al_set (k := 4) nd11 rfl rfl]
  have nd12 : (List.map Prod.fst ((a10, pm_ia g 160 (fun _ => 0)) :: (a7, pm_ia g 24 (fun _ => 0)) :: (a4, pm_ia g 160 (fun _ => 0)) :: (a1, pm_ia g 160 (fun _ => 0)) :: (a, pm_ob 11 [.ref a1, .ref a4, .ref a7, .ref a10, .null, .null, .null, .int 0, .int 0, .int 0, .int 0, .int 0, .int 0, .null, .null, .null, .null, .int 0, .null, .null, .null, .null, .null, .null, .int 0, .null, .null, .null]) :: ws)).Nodup := nd11
  refine And.intro rfl (And.intro rfl (fun a13 h13 => ?_))
  have g14 := al_none h13
  have nd14 : (List.map Prod.fst ((a13, pm_ia g 160 (fun _ => 0)) :: ((a10, pm_ia g 160 (fun _ => 0)) :: (a7, pm_ia g 24 (fun _ => 0)) :: (a4, pm_ia g 160 (fun _ => 0)) :: (a1, pm_ia g 160 (fun _ => 0)) :: (a, pm_ob 11 [.ref a1, .ref a4, .ref a7, .ref a10, .null, .null, .null, .int 0, .int 0, .int 0, .int 0, .int 0, .int 0, .null, .null, .null, .null, .int 0, .null, .null, .null, .null, .null, .null, .int 0, .null, .null, .null]) :: ws))).Nodup := al_nd nd12 h13
  rw [show pm_up (al A ((a10, pm_ia g 160 (fun _ => 0)) :: (a7, pm_ia g 24 (fun _ => 0)) :: (a4, pm_ia g 160 (fun _ => 0)) :: (a1, pm_ia g 160 (fun _ => 0)) :: (a, pm_ob 11 [.ref a1, .ref a4, .ref a7, .ref a10, .null, .null, .null, .int 0, .int 0, .int 0, .int 0, .int 0, .int 0, .null, .null, .null, .null, .int 0, .null, .null, .null, .null, .null, .null, .int 0, .null, .null, .null]) :: ws)) a13 (pm_ia g 160 (fun _ => 0)) = al A ((a13, pm_ia g 160 (fun _ => 0)) :: ((a10, pm_ia g 160 (fun _ => 0)) :: (a7, pm_ia g 24 (fun _ => 0)) :: (a4, pm_ia g 160 (fun _ => 0)) :: (a1, pm_ia g 160 (fun _ => 0)) :: (a, pm_ob 11 [.ref a1, .ref a4, .ref a7, .ref a10, .null, .null, .null, .int 0, .int 0, .int 0, .int 0, .int 0, .int 0, .null, .null, .null, .null, .int 0, .null, .null, .null, .null, .null, .null, .int 0, .null, .null, .null]) :: ws)) from rfl]
  refine Exists.intro _ (And.intro (al_get (k := 5) nd14 rfl) (And.intro rfl ?_))
  rw [show pm_up (al A ((a13, pm_ia g 160 (fun _ => 0)) :: (a10, pm_ia g 160 (fun _ => 0)) :: (a7, pm_ia g 24 (fun _ => 0)) :: (a4, pm_ia g 160 (fun _ => 0)) :: (a1, pm_ia g 160 (fun _ => 0)) :: (a, pm_ob 11 [.ref a1, .ref a4, .ref a7, .ref a10, .null, .null, .null, .int 0, .int 0, .int 0, .int 0, .int 0, .int 0, .null, .null, .null, .null, .int 0, .null, .null, .null, .null, .null, .null, .int 0, .null, .null, .null]) :: ws)) a (pm_ob 11 (([.ref a1, .ref a4, .ref a7, .ref a10, .null, .null, .null, .int 0, .int 0, .int 0, .int 0, .int 0, .int 0, .null, .null, .null, .null, .int 0, .null, .null, .null, .null, .null, .null, .int 0, .null, .null, .null] : List Value).set 4 (.ref a13))) = al A ((a13, pm_ia g 160 (fun _ => 0)) :: (a10, pm_ia g 160 (fun _ => 0)) :: (a7, pm_ia g 24 (fun _ => 0)) :: (a4, pm_ia g 160 (fun _ => 0)) :: (a1, pm_ia g 160 (fun _ => 0)) :: (a, pm_ob 11 [.ref a1, .ref a4, .ref a7, .ref a10, .ref a13, .null, .null, .int 0, .int 0, .int 0, .int 0, .int 0, .int 0, .null, .null, .null, .null, .int 0, .null, .null, .null, .null, .null, .null, .int 0, .null, .null, .null]) :: ws) from al_set (k := 5) nd14 rfl rfl]
  have nd15 : (List.map Prod.fst ((a13, pm_ia g 160 (fun _ => 0)) :: (a10, pm_ia g 160 (fun _ => 0)) :: (a7, pm_ia g 24 (fun _ => 0)) :: (a4, pm_ia g 160 (fun _ => 0)) :: (a1, pm_ia g 160 (fun _ => 0)) :: (a, pm_ob 11 [.ref a1, .ref a4, .ref a7, .ref a10, .ref a13, .null, .null, .int 0, .int 0, .int 0, .int 0, .int 0, .int 0, .null, .null, .null, .null, .int 0, .null, .null, .null, .null, .null, .null, .int 0, .null, .null, .null]) :: ws)).Nodup := nd14
  refine And.intro rfl (And.intro rfl (fun a16 h16 => ?_))
  have g17 := al_none h16
  have nd17 : (List.map Prod.fst ((a16, pm_ia g 160 (fun _ => 0)) :: ((a13, pm_ia g 160 (fun _ => 0)) :: (a10, pm_ia g 160 (fun _ => 0)) :: (a7, pm_ia g 24 (fun _ => 0)) :: (a4, pm_ia g 160 (fun _ => 0)) :: (a1, pm_ia g 160 (fun _ => 0)) :: (a, pm_ob 11 [.ref a1, .ref a4, .ref a7, .ref a10, .ref a13, .null, .null, .int 0, .int 0, .int 0, .int 0, .int 0, .int 0, .null, .null, .null, .null, .int 0, .null, .null, .null, .null, .null, .null, .int 0, .null, .null, .null]) :: ws))).Nodup := al_nd nd15 h16
  rw [show pm_up (al A ((a13, pm_ia g 160 (fun _ => 0)) :: (a10, pm_ia g 160 (fun _ => 0)) :: (a7, pm_ia g 24 (fun _ => 0)) :: (a4, pm_ia g 160 (fun _ => 0)) :: (a1, pm_ia g 160 (fun _ => 0)) :: (a, pm_ob 11 [.ref a1, .ref a4, .ref a7, .ref a10, .ref a13, .null, .null, .int 0, .int 0, .int 0, .int 0, .int 0, .int 0, .null, .null, .null, .null, .int 0, .null, .null, .null, .null, .null, .null, .int 0, .null, .null, .null]) :: ws)) a16 (pm_ia g 160 (fun _ => 0)) = al A ((a16, pm_ia g 160 (fun _ => 0)) :: ((a13, pm_ia g 160 (fun _ => 0)) :: (a10, pm_ia g 160 (fun _ => 0)) :: (a7, pm_ia g 24 (fun _ => 0)) :: (a4, pm_ia g 160 (fun _ => 0)) :: (a1, pm_ia g 160 (fun _ => 0)) :: (a, pm_ob 11 [.ref a1, .ref a4, .ref a7, .ref a10, .ref a13, .null, .null, .int 0, .int 0, .int 0, .int 0, .int 0, .int 0, .null, .null, .null, .null, .int 0, .null, .null, .null, .null, .null, .null, .int 0, .null, .null, .null]) :: ws)) from rfl]
  refine Exists.intro _ (And.intro (al_get (k := 6) nd17 rfl) (And.intro rfl ?_))
  rw [show pm_up (al A ((a16, pm_ia g 160 (fun _ => 0)) :: (a13, pm_ia g 160 (fun _ => 0)) :: (a10, pm_ia g 160 (fun _ => 0)) :: (a7, pm_ia g 24 (fun _ => 0)) :: (a4, pm_ia g 160 (fun _ => 0)) :: (a1, pm_ia g 160 (fun _ => 0)) :: (a, pm_ob 11 [.ref a1, .ref a4, .ref a7, .ref a10, .ref a13, .null, .null, .int 0, .int 0, .int 0, .int 0, .int 0, .int 0, .null, .null, .null, .null, .int 0, .null, .null, .null, .null, .null, .null, .int 0, .null, .null, .null]) :: ws)) a (pm_ob 11 (([.ref a1, .ref a4, .ref a7, .ref a10, .ref a13, .null, .null, .int 0, .int 0, .int 0, .int 0, .int 0, .int 0, .null, .null, .null, .null, .int 0, .null, .null, .null, .null, .null, .null, .int 0, .null, .null, .null] : List Value).set 5 (.ref a16))) = al A ((a16, pm_ia g 160 (fun _ => 0)) :: (a13, pm_ia g 160 (fun _ => 0)) :: (a10, pm_ia g 160 (fun _ => 0)) :: (a7, pm_ia g 24 (fun _ => 0)) :: (a4, pm_ia g 160 (fun _ => 0)) :: (a1, pm_ia g 160 (fun _ => 0)) :: (a, pm_ob 11 [.ref a1, .ref a4, .ref a7, .ref a10, .ref a13, .ref a16, .null, .int 0, .int 0, .int 0, .int 0, .int 0, .int 0, .null, .null, .null, .null, .int 0, .null, .null, .null, .null, .null, .null, .int 0, .null, .null, .null]) :: ws) from al_set (k := 6) nd17 rfl rfl]
  have nd18 : (List.map Prod.fst ((a16, pm_ia g 160 (fun _ => 0)) :: (a13, pm_ia g 160 (fun _ => 0)) :: (a10, pm_ia g 160 (fun _ => 0)) :: (a7, pm_ia g 24 (fun _ => 0)) :: (a4, pm_ia g 160 (fun _ => 0)) :: (a1, pm_ia g 160 (fun _ => 0)) :: (a, pm_ob 11 [.ref a1, .ref a4, .ref a7, .ref a10, .ref a13, .ref a16, .null, .int 0, .int 0, .int 0, .int 0, .int 0, .int 0, .null, .null, .null, .null, .int 0, .null, .null, .null, .null, .null, .null, .int 0, .null, .null, .null]) :: ws)).Nodup := nd17
  refine And.intro rfl (And.intro rfl (fun a19 h19 => ?_))
  have g20 := al_none h19
  have nd20 : (List.map Prod.fst ((a19, pm_ia g 160 (fun _ => 0)) :: ((a16, pm_ia g 160 (fun _ => 0)) :: (a13, pm_ia g 160 (fun _ => 0)) :: (a10, pm_ia g 160 (fun _ => 0)) :: (a7, pm_ia g 24 (fun _ => 0)) :: (a4, pm_ia g 160 (fun _ => 0)) :: (a1, pm_ia g 160 (fun _ => 0)) :: (a, pm_ob 11 [.ref a1, .ref a4, .ref a7, .ref a10, .ref a13, .ref a16, .null, .int 0, .int 0, .int 0, .int 0, .int 0, .int 0, .null, .null, .null, .null, .int 0, .null, .null, .null, .null, .null, .null, .int 0, .null, .null, .null]) :: ws))).Nodup := al_nd nd18 h19
  rw [show pm_up (al A ((a16, pm_ia g 160 (fun _ => 0)) :: (a13, pm_ia g 160 (fun _ => 0)) :: (a10, pm_ia g 160 (fun _ => 0)) :: (a7, pm_ia g 24 (fun _ => 0)) :: (a4, pm_ia g 160 (fun _ => 0)) :: (a1, pm_ia g 160 (fun _ => 0)) :: (a, pm_ob 11 [.ref a1, .ref a4, .ref a7, .ref a10, .ref a13, .ref a16, .null, .int 0, .int 0, .int 0, .int 0, .int 0, .int 0, .null, .null, .null, .null, .int 0, .null, .null, .null, .null, .null, .null, .int 0, .null, .null, .null]) :: ws)) a19 (pm_ia g 160 (fun _ => 0)) = al A ((a19, pm_ia g 160 (fun _ => 0)) :: ((a16, pm_ia g 160 (fun _ => 0)) :: (a13, pm_ia g 160 (fun _ => 0)) :: (a10, pm_ia g 160 (fun _ => 0)) :: (a7, pm_ia g 24 (fun _ => 0)) :: (a4, pm_ia g 160 (fun _ => 0)) :: (a1, pm_ia g 160 (fun _ => 0)) :: (a, pm_ob 11 [.ref a1, .ref a4, .ref a7, .ref a10, .ref a13, .ref a16, .null, .int 0, .int 0, .int 0, .int 0, .int 0, .int 0, .null, .null, .null, .null, .int 0, .null, .null, .null, .null, .null, .null, .int 0, .null, .null, .null]) :: ws)) from rfl]
  refine Exists.intro _ (And.intro (al_get (k := 7) nd20 rfl) (And.intro rfl ?_))
  rw [show pm_up (al A ((a19, pm_ia g 160 (fun _ => 0)) :: (a16, pm_ia g 160 (fun _ => 0)) :: (a13, pm_ia g 160 (fun _ => 0)) :: (a10, pm_ia g 160 (fun _ => 0)) :: (a7, pm_ia g 24 (fun _ => 0)) :: (a4, pm_ia g 160 (fun _ => 0)) :: (a1, pm_ia g 160 (fun _ => 0)) :: (a, pm_ob 11 [.ref a1, .ref a4, .ref a7, .ref a10, .ref a13, .ref a16, .null, .int 0, .int 0, .int 0, .int 0, .int 0, .int 0, .null, .null, .null, .null, .int 0, .null, .null, .null, .null, .null, .null, .int 0, .null, .null, .null]) :: ws)) a (pm_ob 11 (([.ref a1, .ref a4, .ref a7, .ref a10, .ref a13, .ref a16, .null, .int 0, .int 0, .int 0, .int 0, .int 0, .int 0, .null, .null, .null, .null, .int 0, .null, .null, .null, .null, .null, .null, .int 0, .null, .null, .null] : List Value).set 6 (.ref a19))) = al A ((a19, pm_ia g 160 (fun _ => 0)) :: (a16, pm_ia g 160 (fun _ => 0)) :: (a13, pm_ia g 160 (fun _ => 0)) :: (a10, pm_ia g 160 (fun _ => 0)) :: (a7, pm_ia g 24 (fun _ => 0)) :: (a4, pm_ia g 160 (fun _ => 0)) :: (a1, pm_ia g 160 (fun _ => 0)) :: (a, pm_ob 11 [.ref a1, .ref a4, .ref a7, .ref a10, .ref a13, .ref a16, .ref a19, .int 0, .int 0, .int 0, .int 0, .int 0, .int 0, .null, .null, .null, .null, .int 0, .null, .null, .null, .null, .null, .null, .int 0, .null, .null, .null]) :: ws) from al_set (k := 7) nd20 rfl rfl]
  have nd21 : (List.map Prod.fst ((a19, pm_ia g 160 (fun _ => 0)) :: (a16, pm_ia g 160 (fun _ => 0)) :: (a13, pm_ia g 160 (fun _ => 0)) :: (a10, pm_ia g 160 (fun _ => 0)) :: (a7, pm_ia g 24 (fun _ => 0)) :: (a4, pm_ia g 160 (fun _ => 0)) :: (a1, pm_ia g 160 (fun _ => 0)) :: (a, pm_ob 11 [.ref a1, .ref a4, .ref a7, .ref a10, .ref a13, .ref a16, .ref a19, .int 0, .int 0, .int 0, .int 0, .int 0, .int 0, .null, .null, .null, .null, .int 0, .null, .null, .null, .null, .null, .null, .int 0, .null, .null, .null]) :: ws)).Nodup := nd20
  refine And.intro rfl (And.intro rfl (fun a22 h22 => ?_))
  have g23 := al_none h22
  have nd23 : (List.map Prod.fst ((a22, pm_ia g 30 (fun _ => 0)) :: ((a19, pm_ia g 160 (fun _ => 0)) :: (a16, pm_ia g 160 (fun _ => 0)) :: (a13, pm_ia g 160 (fun _ => 0)) :: (a10, pm_ia g 160 (fun _ => 0)) :: (a7, pm_ia g 24 (fun _ => 0)) :: (a4, pm_ia g 160 (fun _ => 0)) :: (a1, pm_ia g 160 (fun _ => 0)) :: (a, pm_ob 11 [.ref a1, .ref a4, .ref a7, .ref a10, .ref a13, .ref a16, .ref a19, .int 0, .int 0, .int 0, .int 0, .int 0, .int 0, .null, .null, .null, .null, .int 0, .null, .null, .null, .null, .null, .null, .int 0, .null, .null, .null]) :: ws))).Nodup := al_nd nd21 h22
  rw [show pm_up (al A ((a19, pm_ia g 160 (fun _ => 0)) :: (a16, pm_ia g 160 (fun _ => 0)) :: (a13, pm_ia g 160 (fun _ => 0)) :: (a10, pm_ia g 160 (fun _ => 0)) :: (a7, pm_ia g 24 (fun _ => 0)) :: (a4, pm_ia g 160 (fun _ => 0)) :: (a1, pm_ia g 160 (fun _ => 0)) :: (a, pm_ob 11 [.ref a1, .ref a4, .ref a7, .ref a10, .ref a13, .ref a16, .ref a19, .int 0, .int 0, .int 0, .int 0, .int 0, .int 0, .null, .null, .null, .null, .int 0, .null, .null, .null, .null, .null, .null, .int 0, .null, .null, .null]) :: ws)) a22 (pm_ia g 30 (fun _ => 0)) = al A ((a22, pm_ia g 30 (fun _ => 0)) :: ((a19, pm_ia g 160 (fun _ => 0)) :: (a16, pm_ia g 160 (fun _ => 0)) :: (a13, pm_ia g 160 (fun _ => 0)) :: (a10, pm_ia g 160 (fun _ => 0)) :: (a7, pm_ia g 24 (fun _ => 0)) :: (a4, pm_ia g 160 (fun _ => 0)) :: (a1, pm_ia g 160 (fun _ => 0)) :: (a, pm_ob 11 [.ref a1, .ref a4, .ref a7, .ref a10, .ref a13, .ref a16, .ref a19, .int 0, .int 0, .int 0, .int 0, .int 0, .int 0, .null, .null, .null, .null, .int 0, .null, .null, .null, .null, .null, .null, .int 0, .null, .null, .null]) :: ws)) from rfl]
  refine Exists.intro _ (And.intro (al_get (k := 8) nd23 rfl) (And.intro rfl ?_))
  rw [show pm_up (al A ((a22, pm_ia g 30 (fun _ => 0)) :: (a19, pm_ia g 160 (fun _ => 0)) :: (a16, pm_ia g 160 (fun _ => 0)) :: (a13, pm_ia g 160 (fun _ => 0)) :: (a10, pm_ia g 160 (fun _ => 0)) :: (a7, pm_ia g 24 (fun _ => 0)) :: (a4, pm_ia g 160 (fun _ => 0)) :: (a1, pm_ia g 160 (fun _ => 0)) :: (a, pm_ob 11 [.ref a1, .ref a4, .ref a7, .ref a10, .ref a13, .ref a16, .ref a19, .int 0, .int 0, .int 0, .int 0, .int 0, .int 0, .null, .null, .null, .null, .int 0, .null, .null, .null, .null, .null, .null, .int 0, .null, .null, .null]) :: ws)) a (pm_ob 11 (([.ref a1, .ref a4, .ref a7, .ref a10, .ref a13, .ref a16, .ref a19, .int 0, .int 0, .int 0, .int 0, .int 0, .int 0, .null, .null, .null, .null, .int 0, .null, .null, .null, .null, .null, .null, .int 0, .null, .null, .null] : List Value).set 13 (.ref a22))) = al A ((a22, pm_ia g 30 (fun _ => 0)) :: (a19, pm_ia g 160 (fun _ => 0)) :: (a16, pm_ia g 160 (fun _ => 0)) :: (a13, pm_ia g 160 (fun _ => 0)) :: (a10, pm_ia g 160 (fun _ => 0)) :: (a7, pm_ia g 24 (fun _ => 0)) :: (a4, pm_ia g 160 (fun _ => 0)) :: (a1, pm_ia g 160 (fun _ => 0)) :: (a, pm_ob 11 [.ref a1, .ref a4, .ref a7, .ref a10, .ref a13, .ref a16, .ref a19, .int 0, .int 0, .int 0, .int 0, .int 0, .int 0, .ref a22, .null, .null, .null, .int 0, .null, .null, .null, .null, .null, .null, .int 0, .null, .null, .null]) :: ws) from al_set (k := 8) nd23 rfl rfl]
  have nd24 : (List.map Prod.fst ((a22, pm_ia g 30 (fun _ => 0)) :: (a19, pm_ia g 160 (fun _ => 0)) :: (a16, pm_ia g 160 (fun _ => 0)) :: (a13, pm_ia g 160 (fun _ => 0)) :: (a10, pm_ia g 160 (fun _ => 0)) :: (a7, pm_ia g 24 (fun _ => 0)) :: (a4, pm_ia g 160 (fun _ => 0)) :: (a1, pm_ia g 160 (fun _ => 0)) :: (a, pm_ob 11 [.ref a1, .ref a4, .ref a7, .ref a10, .ref a13, .ref a16, .ref a19, .int 0, .int 0, .int 0, .int 0, .int 0, .int 0, .ref a22, .null, .null, .null, .int 0, .null, .null, .null, .null, .null, .null, .int 0, .null, .null, .null]) :: ws)).Nodup := nd23
  refine And.intro rfl (And.intro rfl (fun a25 h25 => ?_))
  have g26 := al_none h25
  have nd26 : (List.map Prod.fst ((a25, pm_ia g 30 (fun _ => 0)) :: ((a22, pm_ia g 30 (fun _ => 0)) :: (a19, pm_ia g 160 (fun _ => 0)) :: (a16, pm_ia g 160 (fun _ => 0)) :: (a13, pm_ia g 160 (fun _ => 0)) :: (a10, pm_ia g 160 (fun _ => 0)) :: (a7, pm_ia g 24 (fun _ => 0)) :: (a4, pm_ia g 160 (fun _ => 0)) :: (a1, pm_ia g 160 (fun _ => 0)) :: (a, pm_ob 11 [.ref a1, .ref a4, .ref a7, .ref a10, .ref a13, .ref a16, .ref a19, .int 0, .int 0, .int 0, .int 0, .int 0, .int 0, .ref a22, .null, .null, .null, .int 0, .null, .null, .null, .null, .null, .null, .int 0, .null, .null, .null]) :: ws))).Nodup := al_nd nd24 h25
  rw [show pm_up (al A ((a22, pm_ia g 30 (fun _ => 0)) :: (a19, pm_ia g 160 (fun _ => 0)) :: (a16, pm_ia g 160 (fun _ => 0)) :: (a13, pm_ia g 160 (fun _ => 0)) :: (a10, pm_ia g 160 (fun _ => 0)) :: (a7, pm_ia g 24 (fun _ => 0)) :: (a4, pm_ia g 160 (fun _ => 0)) :: (a1, pm_ia g 160 (fun _ => 0)) :: (a, pm_ob 11 [.ref a1, .ref a4, .ref a7, .ref a10, .ref a13, .ref a16, .ref a19, .int 0, .int 0, .int 0, .int 0, .int 0, .int 0, .ref a22, .null, .null, .null, .int 0, .null, .null, .null, .null, .null, .null, .int 0, .null, .null, .null]) :: ws)) a25 (pm_ia g 30 (fun _ => 0)) = al A ((a25, pm_ia g 30 (fun _ => 0)) :: ((a22, pm_ia g 30 (fun _ => 0)) :: (a19, pm_ia g 160 (fun _ => 0)) :: (a16, pm_ia g 160 (fun _ => 0)) :: (a13, pm_ia g 160 (fun _ => 0)) :: (a10, pm_ia g 160 (fun _ => 0)) :: (a7, pm_ia g 24 (fun _ => 0)) :: (a4, pm_ia g 160 (fun _ => 0)) :: (a1, pm_ia g 160 (fun _ => 0)) :: (a, pm_ob 11 [.ref a1, .ref a4, .ref a7, .ref a10, .ref a13, .ref a16, .ref a19, .int 0, .int 0, .int 0, .int 0, .int 0, .int 0, .ref a22, .null, .null, .null, .int 0, .null, .null, .null, .null, .null, .null, .int 0, .null, .null, .null]) :: ws)) from rfl]
  refine Exists.intro _ (And.intro (al_get (k := 9) nd26 rfl) (And.intro rfl ?_))
  rw [show pm_up (al A ((a25, pm_ia g 30 (fun _ => 0)) :: (a22, pm_ia g 30 (fun _ => 0)) :: (a19, pm_ia g 160 (fun _ => 0)) :: (a16, pm_ia g 160 (fun _ => 0)) :: (a13, pm_ia g 160 (fun _ => 0)) :: (a10, pm_ia g 160 (fun _ => 0)) :: (a7, pm_ia g 24 (fun _ => 0)) :: (a4, pm_ia g 160 (fun _ => 0)) :: (a1, pm_ia g 160 (fun _ => 0)) :: (a, pm_ob 11 [.ref a1, .ref a4, .ref a7, .ref a10, .ref a13, .ref a16, .ref a19, .int 0, .int 0, .int 0, .int 0, .int 0, .int 0, .ref a22, .null, .null, .null, .int 0, .null, .null, .null, .null, .null, .null, .int 0, .null, .null, .null]) :: ws)) a (pm_ob 11 (([.ref a1, .ref a4, .ref a7, .ref a10, .ref a13, .ref a16, .ref a19, .int 0, .int 0, .int 0, .int 0, .int 0, .int 0, .ref a22, .null, .null, .null, .int 0, .null, .null, .null, .null, .null, .null, .int 0, .null, .null, .null] : List Value).set 14 (.ref a25))) = al A ((a25, pm_ia g 30 (fun _ => 0)) :: (a22, pm_ia g 30 (fun _ => 0)) :: (a19, pm_ia g 160 (fun _ => 0)) :: (a16, pm_ia g 160 (fun _ => 0)) :: (a13, pm_ia g 160 (fun _ => 0)) :: (a10, pm_ia g 160 (fun _ => 0)) :: (a7, pm_ia g 24 (fun _ => 0)) :: (a4, pm_ia g 160 (fun _ => 0)) :: (a1, pm_ia g 160 (fun _ => 0)) :: (a, pm_ob 11 [.ref a1, .ref a4, .ref a7, .ref a10, .ref a13, .ref a16, .ref a19, .int 0, .int 0, .int 0, .int 0, .int 0, .int 0, .ref a22, .ref a25, .null, .null, .int 0, .null, .null, .null, .null, .null, .null, .int 0, .null, .null, .null]) :: ws) from al_set (k := 9) nd26 rfl rfl]
  have nd27 : (List.map Prod.fst ((a25, pm_ia g 30 (fun _ => 0)) :: (a22, pm_ia g 30 (fun _ => 0)) :: (a19, pm_ia g 160 (fun _ => 0)) :: (a16, pm_ia g 160 (fun _ => 0)) :: (a13, pm_ia g 160 (fun _ => 0)) :: (a10, pm_ia g 160 (fun _ => 0)) :: (a7, pm_ia g 24 (fun _ => 0)) :: (a4, pm_ia g 160 (fun _ => 0)) :: (a1, pm_ia g 160 (fun _ => 0)) :: (a, pm_ob 11 [.ref a1, .ref a4, .ref a7, .ref a10, .ref a13, .ref a16, .ref a19, .int 0, .int 0, .int 0, .int 0, .int 0, .int 0, .ref a22, .ref a25, .null, .null, .int 0, .null, .null, .null, .null, .null, .null, .int 0, .null, .null, .null]) :: ws)).Nodup := nd26
  refine And.intro rfl (And.intro rfl (fun a28 h28 => ?_))
  have g29 := al_none h28
  have nd29 : (List.map Prod.fst ((a28, pm_ia g 30 (fun _ => 0)) :: ((a25, pm_ia g 30 (fun _ => 0)) :: (a22, pm_ia g 30 (fun _ => 0)) :: (a19, pm_ia g 160 (fun _ => 0)) :: (a16, pm_ia g 160 (fun _ => 0)) :: (a13, pm_ia g 160 (fun _ => 0)) :: (a10, pm_ia g 160 (fun _ => 0)) :: (a7, pm_ia g 24 (fun _ => 0)) :: (a4, pm_ia g 160 (fun _ => 0)) :: (a1, pm_ia g 160 (fun _ => 0)) :: (a, pm_ob 11 [.ref a1, .ref a4, .ref a7, .ref a10, .ref a13, .ref a16, .ref a19, .int 0, .int 0, .int 0, .int 0, .int 0, .int 0, .ref a22, .ref a25, .null, .null, .int 0, .null, .null, .null, .null, .null, .null, .int 0, .null, .null, .null]) :: ws))).Nodup := al_nd nd27 h28
  rw [show pm_up (al A ((a25, pm_ia g 30 (fun _ => 0)) :: (a22, pm_ia g 30 (fun _ => 0)) :: (a19, pm_ia g 160 (fun _ => 0)) :: (a16, pm_ia g 160 (fun _ => 0)) :: (a13, pm_ia g 160 (fun _ => 0)) :: (a10, pm_ia g 160 (fun _ => 0)) :: (a7, pm_ia g 24 (fun _ => 0)) :: (a4, pm_ia g 160 (fun _ => 0)) :: (a1, pm_ia g 160 (fun _ => 0)) :: (a, pm_ob 11 [.ref a1, .ref a4, .ref a7, .ref a10, .ref a13, .ref a16, .ref a19, .int 0, .int 0, .int 0, .int 0, .int 0, .int 0, .ref a22, .ref a25, .null, .null, .int 0, .null, .null, .null, .null, .null, .null, .int 0, .null, .null, .null]) :: ws)) a28 (pm_ia g 30 (fun _ => 0)) = al A ((a28, pm_ia g 30 (fun _ => 0)) :: ((a25, pm_ia g 30 (fun _ => 0)) :: (a22, pm_ia g 30 (fun _ => 0)) :: (a19, pm_ia g 160 (fun _ => 0)) :: (a16, pm_ia g 160 (fun _ => 0)) :: (a13, pm_ia g 160 (fun _ => 0)) :: (a10, pm_ia g 160 (fun _ => 0)) :: (a7, pm_ia g 24 (fun _ => 0)) :: (a4, pm_ia g 160 (fun _ => 0)) :: (a1, pm_ia g 160 (fun _ => 0)) :: (a, pm_ob 11 [.ref a1, .ref a4, .ref a7, .ref a10, .ref a13, .ref a16, .ref a19, .int 0, .int 0, .int 0, .int 0, .int 0, .int 0, .ref a22, .ref a25, .null, .null, .int 0, .null, .null, .null, .null, .null, .null, .int 0, .null, .null, .null]) :: ws)) from rfl]
  refine Exists.intro _ (And.intro (al_get (k := 10) nd29 rfl) (And.intro rfl ?_))
  rw [show pm_up (al A ((a28, pm_ia g 30 (fun _ => 0)) :: (a25, pm_ia g 30 (fun _ => 0)) :: (a22, pm_ia g 30 (fun _ => 0)) :: (a19, pm_ia g 160 (fun _ => 0)) :: (a16, pm_ia g 160 (fun _ => 0)) :: (a13, pm_ia g 160 (fun _ => 0)) :: (a10, pm_ia g 160 (fun _ => 0)) :: (a7, pm_ia g 24 (fun _ => 0)) :: (a4, pm_ia g 160 (fun _ => 0)) :: (a1, pm_ia g 160 (fun _ => 0)) :: (a, pm_ob 11 [.ref a1, .ref a4, .ref a7, .ref a10, .ref a13, .ref a16, .ref a19, .int 0, .int 0, .int 0, .int 0, .int 0, .int 0, .ref a22, .ref a25, .null, .null, .int 0, .null, .null, .null, .null, .null, .null, .int 0, .null, .null, .null]) :: ws)) a (pm_ob 11 (([.ref a1, .ref a4, .ref a7, .ref a10, .ref a13, .ref a16, .ref a19, .int 0, .int 0, .int 0, .int 0, .int 0, .int 0, .ref a22, .ref a25, .null, .null, .int 0, .null, .null, .null, .null, .null, .null, .int 0, .null, .null, .null] : List Value).set 15 (.ref a28))) = al A ((a28, pm_ia g 30 (fun _ => 0)) :: (a25, pm_ia g 30 (fun _ => 0)) :: (a22, pm_ia g 30 (fun _ => 0)) :: (a19, pm_ia g 160 (fun _ => 0)) :: (a16, pm_ia g 160 (fun _ => 0)) :: (a13, pm_ia g 160 (fun _ => 0)) :: (a10, pm_ia g 160 (fun _ => 0)) :: (a7, pm_ia g 24 (fun _ => 0)) :: (a4, pm_ia g 160 (fun _ => 0)) :: (a1, pm_ia g 160 (fun _ => 0)) :: (a, pm_ob 11 [.ref a1, .ref a4, .ref a7, .ref a10, .ref a13, .ref a16, .ref a19, .int 0, .int 0, .int 0, .int 0, .int 0, .int 0, .ref a22, .ref a25, .ref a28, .null, .int 0, .null, .null, .null, .null, .null, .null, .int 0, .null, .null, .null]) :: ws) from al_set (k := 10) nd29 rfl rfl]
  have nd30 : (List.map Prod.fst ((a28, pm_ia g 30 (fun _ => 0)) :: (a25, pm_ia g 30 (fun _ => 0)) :: (a22, pm_ia g 30 (fun _ => 0)) :: (a19, pm_ia g 160 (fun _ => 0)) :: (a16, pm_ia g 160 (fun _ => 0)) :: (a13, pm_ia g 160 (fun _ => 0)) :: (a10, pm_ia g 160 (fun _ => 0)) :: (a7, pm_ia g 24 (fun _ => 0)) :: (a4, pm_ia g 160 (fun _ => 0)) :: (a1, pm_ia g 160 (fun _ => 0)) :: (a, pm_ob 11 [.ref a1, .ref a4, .ref a7, .ref a10, .ref a13, .ref a16, .ref a19, .int 0, .int 0, .int 0, .int 0, .int 0, .int 0, .ref a22, .ref a25, .ref a28, .null, .int 0, .null, .null, .null, .null, .null, .null, .int 0, .null, .null, .null]) :: ws)).Nodup := nd29
  refine And.intro rfl (And.intro rfl (fun a31 h31 => ?_))
  have g32 := al_none h31
  have nd32 : (List.map Prod.fst ((a31, pm_ia g 30 (fun _ => 0)) :: ((a28, pm_ia g 30 (fun _ => 0)) :: (a25, pm_ia g 30 (fun _ => 0)) :: (a22, pm_ia g 30 (fun _ => 0)) :: (a19, pm_ia g 160 (fun _ => 0)) :: (a16, pm_ia g 160 (fun _ => 0)) :: (a13, pm_ia g 160 (fun _ => 0)) :: (a10, pm_ia g 160 (fun _ => 0)) :: (a7, pm_ia g 24 (fun _ => 0)) :: (a4, pm_ia g 160 (fun _ => 0)) :: (a1, pm_ia g 160 (fun _ => 0)) :: (a, pm_ob 11 [.ref a1, .ref a4, .ref a7, .ref a10, .ref a13, .ref a16, .ref a19, .int 0, .int 0, .int 0, .int 0, .int 0, .int 0, .ref a22, .ref a25, .ref a28, .null, .int 0, .null, .null, .null, .null, .null, .null, .int 0, .null, .null, .null]) :: ws))).Nodup := al_nd nd30 h31
  rw [show pm_up (al A ((a28, pm_ia g 30 (fun _ => 0)) :: (a25, pm_ia g 30 (fun _ => 0)) :: (a22, pm_ia g 30 (fun _ => 0)) :: (a19, pm_ia g 160 (fun _ => 0)) :: (a16, pm_ia g 160 (fun _ => 0)) :: (a13, pm_ia g 160 (fun _ => 0)) :: (a10, pm_ia g 160 (fun _ => 0)) :: (a7, pm_ia g 24 (fun _ => 0)) :: (a4, pm_ia g 160 (fun _ => 0)) :: (a1, pm_ia g 160 (fun _ => 0)) :: (a, pm_ob 11 [.ref a1, .ref a4, .ref a7, .ref a10, .ref a13, .ref a16, .ref a19, .int 0, .int 0, .int 0, .int 0, .int 0, .int 0, .ref a22, .ref a25, .ref a28, .null, .int 0, .null, .null, .null, .null, .null, .null, .int 0, .null, .null, .null]) :: ws)) a31 (pm_ia g 30 (fun _ => 0)) = al A ((a31, pm_ia g 30 (fun _ => 0)) :: ((a28, pm_ia g 30 (fun _ => 0)) :: (a25, pm_ia g 30 (fun _ => 0)) :: (a22, pm_ia g 30 (fun _ => 0)) :: (a19, pm_ia g 160 (fun _ => 0)) :: (a16, pm_ia g 160 (fun _ => 0)) :: (a13, pm_ia g 160 (fun _ => 0)) :: (a10, pm_ia g 160 (fun _ => 0)) :: (a7, pm_ia g 24 (fun _ => 0)) :: (a4, pm_ia g 160 (fun _ => 0)) :: (a1, pm_ia g 160 (fun _ => 0)) :: (a, pm_ob 11 [.ref a1, .ref a4, .ref a7, .ref a10, .ref a13, .ref a16, .ref a19, .int 0, .int 0, .int 0, .int 0, .int 0, .int 0, .ref a22, .ref a25, .ref a28, .null, .int 0, .null, .null, .null, .null, .null, .null, .int 0, .null, .null, .null]) :: ws)) from rfl]
  refine Exists.intro _ (And.intro (al_get (k := 11) nd32 rfl) (And.intro rfl ?_))
  rw [show pm_up (al A ((a31, pm_ia g 30 (fun _ => 0)) :: (a28, pm_ia g 30 (fun _ => 0)) :: (a25, pm_ia g 30 (fun _ => 0)) :: (a22, pm_ia g 30 (fun _ => 0)) :: (a19, pm_ia g 160 (fun _ => 0)) :: (a16, pm_ia g 160 (fun _ => 0)) :: (a13, pm_ia g 160 (fun _ => 0)) :: (a10, pm_ia g 160 (fun _ => 0)) :: (a7, pm_ia g 24 (fun _ => 0)) :: (a4, pm_ia g 160 (fun _ => 0)) :: (a1, pm_ia g 160 (fun _ => 0)) :: (a, pm_ob 11 [.ref a1, .ref a4, .ref a7, .ref a10, .ref a13, .ref a16, .ref a19, .int 0, .int 0, .int 0, .int 0, .int 0, .int 0, .ref a22, .ref a25, .ref a28, .null, .int 0, .null, .null, .null, .null, .null, .null, .int 0, .null, .null, .null]) :: ws)) a (pm_ob 11 (([.ref a1, .ref a4, .ref a7, .ref a10, .ref a13, .ref a16, .ref a19, .int 0, .int 0, .int 0, .int 0, .int 0, .int 0, .ref a22, .ref a25, .ref a28, .null, .int 0, .null, .null, .null, .null, .null, .null, .int 0, .null, .null, .null] : List Value).set 16 (.ref a31))) = al A ((a31, pm_ia g 30 (fun _ => 0)) :: (a28, pm_ia g 30 (fun _ => 0)) :: (a25, pm_ia g 30 (fun _ => 0)) :: (a22, pm_ia g 30 (fun _ => 0)) :: (a19, pm_ia g 160 (fun _ => 0)) :: (a16, pm_ia g 160 (fun _ => 0)) :: (a13, pm_ia g 160 (fun _ => 0)) :: (a10, pm_ia g 160 (fun _ => 0)) :: (a7, pm_ia g 24 (fun _ => 0)) :: (a4, pm_ia g 160 (fun _ => 0)) :: (a1, pm_ia g 160 (fun _ => 0)) :: (a, pm_ob 11 [.ref a1, .ref a4, .ref a7, .ref a10, .ref a13, .ref a16, .ref a19, .int 0, .int 0, .int 0, .int 0, .int 0, .int 0, .ref a22, .ref a25, .ref a28, .ref a31, .int 0, .null, .null, .null, .null, .null, .null, .int 0, .null, .null, .null]) :: ws) from al_set (k := 11) nd32 rfl rfl]
  have nd33 : (List.map Prod.fst ((a31, pm_ia g 30 (fun _ => 0)) :: (a28, pm_ia g 30 (fun _ => 0)) :: (a25, pm_ia g 30 (fun _ => 0)) :: (a22, pm_ia g 30 (fun _ => 0)) :: (a19, pm_ia g 160 (fun _ => 0)) :: (a16, pm_ia g 160 (fun _ => 0)) :: (a13, pm_ia g 160 (fun _ => 0)) :: (a10, pm_ia g 160 (fun _ => 0)) :: (a7, pm_ia g 24 (fun _ => 0)) :: (a4, pm_ia g 160 (fun _ => 0)) :: (a1, pm_ia g 160 (fun _ => 0)) :: (a, pm_ob 11 [.ref a1, .ref a4, .ref a7, .ref a10, .ref a13, .ref a16, .ref a19, .int 0, .int 0, .int 0, .int 0, .int 0, .int 0, .ref a22, .ref a25, .ref a28, .ref a31, .int 0, .null, .null, .null, .null, .null, .null, .int 0, .null, .null, .null]) :: ws)).Nodup := nd32
  refine And.intro rfl (And.intro rfl (fun a34 h34 => ?_))
  have g35 := al_none h34
  have nd35 : (List.map Prod.fst ((a34, pm_ia g 30 (fun _ => 0)) :: ((a31, pm_ia g 30 (fun _ => 0)) :: (a28, pm_ia g 30 (fun _ => 0)) :: (a25, pm_ia g 30 (fun _ => 0)) :: (a22, pm_ia g 30 (fun _ => 0)) :: (a19, pm_ia g 160 (fun _ => 0)) :: (a16, pm_ia g 160 (fun _ => 0)) :: (a13, pm_ia g 160 (fun _ => 0)) :: (a10, pm_ia g 160 (fun _ => 0)) :: (a7, pm_ia g 24 (fun _ => 0)) :: (a4, pm_ia g 160 (fun _ => 0)) :: (a1, pm_ia g 160 (fun _ => 0)) :: (a, pm_ob 11 [.ref a1, .ref a4, .ref a7, .ref a10, .ref a13, .ref a16, .ref a19, .int 0, .int 0, .int 0, .int 0, .int 0, .int 0, .ref a22, .ref a25, .ref a28, .ref a31, .int 0, .null, .null, .null, .null, .null, .null, .int 0, .null, .null, .null]) :: ws))).Nodup := al_nd nd33 h34
  rw [show pm_up (al A ((a31, pm_ia g 30 (fun _ => 0)) :: (a28, pm_ia g 30 (fun _ => 0)) :: (a25, pm_ia g 30 (fun _ => 0)) :: (a22, pm_ia g 30 (fun _ => 0)) :: (a19, pm_ia g 160 (fun _ => 0)) :: (a16, pm_ia g 160 (fun _ => 0)) :: (a13, pm_ia g 160 (fun _ => 0)) :: (a10, pm_ia g 160 (fun _ => 0)) :: (a7, pm_ia g 24 (fun _ => 0)) :: (a4, pm_ia g 160 (fun _ => 0)) :: (a1, pm_ia g 160 (fun _ => 0)) :: (a, pm_ob 11 [.ref a1, .ref a4, .ref a7, .ref a10, .ref a13, .ref a16, .ref a19, .int 0, .int 0, .int 0, .int 0, .int 0, .int 0, .ref a22, .ref a25, .ref a28, .ref a31, .int 0, .null, .null, .null, .null, .null, .null, .int 0, .null, .null, .null]) :: ws)) a34 (pm_ia g 30 (fun _ => 0)) = al A ((a34, pm_ia g 30 (fun _ => 0)) :: ((a31, pm_ia g 30 (fun _ => 0)) :: (a28, pm_ia g 30 (fun _ => 0)) :: (a25, pm_ia g 30 (fun _ => 0)) :: (a22, pm_ia g 30 (fun _ => 0)) :: (a19, pm_ia g 160 (fun _ => 0)) :: (a16, pm_ia g 160 (fun _ => 0)) :: (a13, pm_ia g 160 (fun _ => 0)) :: (a10, pm_ia g 160 (fun _ => 0)) :: (a7, pm_ia g 24 (fun _ => 0)) :: (a4, pm_ia g 160 (fun _ => 0)) :: (a1, pm_ia g 160 (fun _ => 0)) :: (a, pm_ob 11 [.ref a1, .ref a4, .ref a7, .ref a10, .ref a13, .ref a16, .ref a19, .int 0, .int 0, .int 0, .int 0, .int 0, .int 0, .ref a22, .ref a25, .ref a28, .ref a31, .int 0, .null, .null, .null, .null, .null, .null, .int 0, .null, .null, .null]) :: ws)) from rfl]
  refine Exists.intro _ (And.intro (al_get (k := 12) nd35 rfl) (And.intro rfl ?_))
  rw [show pm_up (al A ((a34, pm_ia g 30 (fun _ => 0)) :: (a31, pm_ia g 30 (fun _ => 0)) :: (a28, pm_ia g 30 (fun _ => 0)) :: (a25, pm_ia g 30 (fun _ => 0)) :: (a22, pm_ia g 30 (fun _ => 0)) :: (a19, pm_ia g 160 (fun _ => 0)) :: (a16, pm_ia g 160 (fun _ => 0)) :: (a13, pm_ia g 160 (fun _ => 0)) :: (a10, pm_ia g 160 (fun _ => 0)) :: (a7, pm_ia g 24 (fun _ => 0)) :: (a4, pm_ia g 160 (fun _ => 0)) :: (a1, pm_ia g 160 (fun _ => 0)) :: (a, pm_ob 11 [.ref a1, .ref a4, .ref a7, .ref a10, .ref a13, .ref a16, .ref a19, .int 0, .int 0, .int 0, .int 0, .int 0, .int 0, .ref a22, .ref a25, .ref a28, .ref a31, .int 0, .null, .null, .null, .null, .null, .null, .int 0, .null, .null, .null]) :: ws)) a (pm_ob 11 (([.ref a1, .ref a4, .ref a7, .ref a10, .ref a13, .ref a16, .ref a19, .int 0, .int 0, .int 0, .int 0, .int 0, .int 0, .ref a22, .ref a25, .ref a28, .ref a31, .int 0, .null, .null, .null, .null, .null, .null, .int 0, .null, .null, .null] : List Value).set 18 (.ref a34))) = al A ((a34, pm_ia g 30 (fun _ => 0)) :: (a31, pm_ia g 30 (fun _ => 0)) :: (a28, pm_ia g 30 (fun _ => 0)) :: (a25, pm_ia g 30 (fun _ => 0)) :: (a22, pm_ia g 30 (fun _ => 0)) :: (a19, pm_ia g 160 (fun _ => 0)) :: (a16, pm_ia g 160 (fun _ => 0)) :: (a13, pm_ia g 160 (fun _ => 0)) :: (a10, pm_ia g 160 (fun _ => 0)) :: (a7, pm_ia g 24 (fun _ => 0)) :: (a4, pm_ia g 160 (fun _ => 0)) :: (a1, pm_ia g 160 (fun _ => 0)) :: (a, pm_ob 11 [.ref a1, .ref a4, .ref a7, .ref a10, .ref a13, .ref a16, .ref a19, .int 0, .int 0, .int 0, .int 0, .int 0, .int 0, .ref a22, .ref a25, .ref a28, .ref a31, .int 0, .ref a34, .null, .null, .null, .null, .null, .int 0, .null, .null, .null]) :: ws) from al_set (k := 12) nd35 rfl rfl]
  have nd36 : (List.map Prod.fst ((a34, pm_ia g 30 (fun _ => 0)) :: (a31, pm_ia g 30 (fun _ => 0)) :: (a28, pm_ia g 30 (fun _ => 0)) :: (a25, pm_ia g 30 (fun _ => 0)) :: (a22, pm_ia g 30 (fun _ => 0)) :: (a19, pm_ia g 160 (fun _ => 0)) :: (a16, pm_ia g 160 (fun _ => 0)) :: (a13, pm_ia g 160 (fun _ => 0)) :: (a10, pm_ia g 160 (fun _ => 0)) :: (a7, pm_ia g 24 (fun _ => 0)) :: (a4, pm_ia g 160 (fun _ => 0)) :: (a1, pm_ia g 160 (fun _ => 0)) :: (a, pm_ob 11 [.ref a1, .ref a4, .ref a7, .ref a10, .ref a13, .ref a16, .ref a19, .int 0, .int 0, .int 0, .int 0, .int 0, .int 0, .ref a22, .ref a25, .ref a28, .ref a31, .int 0, .ref a34, .null, .null, .null, .null, .null, .int 0, .null, .null, .null]) :: ws)).Nodup := nd35
  refine And.intro rfl (And.intro rfl (fun a37 h37 => ?_))
  have g38 := al_none h37
  have nd38 : (List.map Prod.fst ((a37, pm_ia g 6400 (fun _ => 0)) :: ((a34, pm_ia g 30 (fun _ => 0)) :: (a31, pm_ia g 30 (fun _ => 0)) :: (a28, pm_ia g 30 (fun _ => 0)) :: (a25, pm_ia g 30 (fun _ => 0)) :: (a22, pm_ia g 30 (fun _ => 0)) :: (a19, pm_ia g 160 (fun _ => 0)) :: (a16, pm_ia g 160 (fun _ => 0)) :: (a13, pm_ia g 160 (fun _ => 0)) :: (a10, pm_ia g 160 (fun _ => 0)) :: (a7, pm_ia g 24 (fun _ => 0)) :: (a4, pm_ia g 160 (fun _ => 0)) :: (a1, pm_ia g 160 (fun _ => 0)) :: (a, pm_ob 11 [.ref a1, .ref a4, .ref a7, .ref a10, .ref a13, .ref a16, .ref a19, .int 0, .int 0, .int 0, .int 0, .int 0, .int 0, .ref a22, .ref a25, .ref a28, .ref a31, .int 0, .ref a34, .null, .null, .null, .null, .null, .int 0, .null, .null, .null]) :: ws))).Nodup := al_nd nd36 h37
  rw [show pm_up (al A ((a34, pm_ia g 30 (fun _ => 0)) :: (a31, pm_ia g 30 (fun _ => 0)) :: (a28, pm_ia g 30 (fun _ => 0)) :: (a25, pm_ia g 30 (fun _ => 0)) :: (a22, pm_ia g 30 (fun _ => 0)) :: (a19, pm_ia g 160 (fun _ => 0)) :: (a16, pm_ia g 160 (fun _ => 0)) :: (a13, pm_ia g 160 (fun _ => 0)) :: (a10, pm_ia g 160 (fun _ => 0)) :: (a7, pm_ia g 24 (fun _ => 0)) :: (a4, pm_ia g 160 (fun _ => 0)) :: (a1, pm_ia g 160 (fun _ => 0)) :: (a, pm_ob 11 [.ref a1, .ref a4, .ref a7, .ref a10, .ref a13, .ref a16, .ref a19, .int 0, .int 0, .int 0, .int 0, .int 0, .int 0, .ref a22, .ref a25, .ref a28, .ref a31, .int 0, .ref a34, .null, .null, .null, .null, .null, .int 0, .null, .null, .null]) :: ws)) a37 (pm_ia g 6400 (fun _ => 0)) = al A ((a37, pm_ia g 6400 (fun _ => 0)) :: ((a34, pm_ia g 30 (fun _ => 0)) :: (a31, pm_ia g 30 (fun _ => 0)) :: (a28, pm_ia g 30 (fun _ => 0)) :: (a25, pm_ia g 30 (fun _ => 0)) :: (a22, pm_ia g 30 (fun _ => 0)) :: (a19, pm_ia g 160 (fun _ => 0)) :: (a16, pm_ia g 160 (fun _ => 0)) :: (a13, pm_ia g 160 (fun _ => 0)) :: (a10, pm_ia g 160 (fun _ => 0)) :: (a7, pm_ia g 24 (fun _ => 0)) :: (a4, pm_ia g 160 (fun _ => 0)) :: (a1, pm_ia g 160 (fun _ => 0)) :: (a, pm_ob 11 [.ref a1, .ref a4, .ref a7, .ref a10, .ref a13, .ref a16, .ref a19, .int 0, .int 0, .int 0, .int 0, .int 0, .int 0, .ref a22, .ref a25, .ref a28, .ref a31, .int 0, .ref a34, .null, .null, .null, .null, .null, .int 0, .null, .null, .null]) :: ws)) from rfl]
  refine Exists.intro _ (And.intro (al_get (k := 13) nd38 rfl) (And.intro rfl ?_))
  rw [show pm_up (al A ((a37, pm_ia g 6400 (fun _ => 0)) :: (a34, pm_ia g 30 (fun _ => 0)) :: (a31, pm_ia g 30 (fun _ => 0)) :: (a28, pm_ia g 30 (fun _ => 0)) :: (a25, pm_ia g 30 (fun _ => 0)) :: (a22, pm_ia g 30 (fun _ => 0)) :: (a19, pm_ia g 160 (fun _ => 0)) :: (a16, pm_ia g 160 (fun _ => 0)) :: (a13, pm_ia g 160 (fun _ => 0)) :: (a10, pm_ia g 160 (fun _ => 0)) :: (a7, pm_ia g 24 (fun _ => 0)) :: (a4, pm_ia g 160 (fun _ => 0)) :: (a1, pm_ia g 160 (fun _ => 0)) :: (a, pm_ob 11 [.ref a1, .ref a4, .ref a7, .ref a10, .ref a13, .ref a16, .ref a19, .int 0, .int 0, .int 0, .int 0, .int 0, .int 0, .ref a22, .ref a25, .ref a28, .ref a31, .int 0, .ref a34, .null, .null, .null, .null, .null, .int 0, .null, .null, .null]) :: ws)) a (pm_ob 11 (([.ref a1, .ref a4, .ref a7, .ref a10, .ref a13, .ref a16, .ref a19, .int 0, .int 0, .int 0, .int 0, .int 0, .int 0, .ref a22, .ref a25, .ref a28, .ref a31, .int 0, .ref a34, .null, .null, .null, .null, .null, .int 0, .null, .null, .null] : List Value).set 19 (.ref a37))) = al A ((a37, pm_ia g 6400 (fun _ => 0)) :: (a34, pm_ia g 30 (fun _ => 0)) :: (a31, pm_ia g 30 (fun _ => 0)) :: (a28, pm_ia g 30 (fun _ => 0)) :: (a25, pm_ia g 30 (fun _ => 0)) :: (a22, pm_ia g 30 (fun _ => 0)) :: (a19, pm_ia g 160 (fun _ => 0)) :: (a16, pm_ia g 160 (fun _ => 0)) :: (a13, pm_ia g 160 (fun _ => 0)) :: (a10, pm_ia g 160 (fun _ => 0)) :: (a7, pm_ia g 24 (fun _ => 0)) :: (a4, pm_ia g 160 (fun _ => 0)) :: (a1, pm_ia g 160 (fun _ => 0)) :: (a, pm_ob 11 [.ref a1, .ref a4, .ref a7, .ref a10, .ref a13, .ref a16, .ref a19, .int 0, .int 0, .int 0, .int 0, .int 0, .int 0, .ref a22, .ref a25, .ref a28, .ref a31, .int 0, .ref a34, .ref a37, .null, .null, .null, .null, .int 0, .null, .null, .null]) :: ws) from al_set (k := 13) nd38 rfl rfl]
  have nd39 : (List.map Prod.fst ((a37, pm_ia g 6400 (fun _ => 0)) :: (a34, pm_ia g 30 (fun _ => 0)) :: (a31, pm_ia g 30 (fun _ => 0)) :: (a28, pm_ia g 30 (fun _ => 0)) :: (a25, pm_ia g 30 (fun _ => 0)) :: (a22, pm_ia g 30 (fun _ => 0)) :: (a19, pm_ia g 160 (fun _ => 0)) :: (a16, pm_ia g 160 (fun _ => 0)) :: (a13, pm_ia g 160 (fun _ => 0)) :: (a10, pm_ia g 160 (fun _ => 0)) :: (a7, pm_ia g 24 (fun _ => 0)) :: (a4, pm_ia g 160 (fun _ => 0)) :: (a1, pm_ia g 160 (fun _ => 0)) :: (a, pm_ob 11 [.ref a1, .ref a4, .ref a7, .ref a10, .ref a13, .ref a16, .ref a19, .int 0, .int 0, .int 0, .int 0, .int 0, .int 0, .ref a22, .ref a25, .ref a28, .ref a31, .int 0, .ref a34, .ref a37, .null, .null, .null, .null, .int 0, .null, .null, .null]) :: ws)).Nodup := nd38
  refine And.intro rfl (And.intro rfl (fun a40 h40 => ?_))
  have g41 := al_none h40
  have nd41 : (List.map Prod.fst ((a40, pm_ia g 6400 (fun _ => 0)) :: ((a37, pm_ia g 6400 (fun _ => 0)) :: (a34, pm_ia g 30 (fun _ => 0)) :: (a31, pm_ia g 30 (fun _ => 0)) :: (a28, pm_ia g 30 (fun _ => 0)) :: (a25, pm_ia g 30 (fun _ => 0)) :: (a22, pm_ia g 30 (fun _ => 0)) :: (a19, pm_ia g 160 (fun _ => 0)) :: (a16, pm_ia g 160 (fun _ => 0)) :: (a13, pm_ia g 160 (fun _ => 0)) :: (a10, pm_ia g 160 (fun _ => 0)) :: (a7, pm_ia g 24 (fun _ => 0)) :: (a4, pm_ia g 160 (fun _ => 0)) :: (a1, pm_ia g 160 (fun _ => 0)) :: (a, pm_ob 11 [.ref a1, .ref a4, .ref a7, .ref a10, .ref a13, .ref a16, .ref a19, .int 0, .int 0, .int 0, .int 0, .int 0, .int 0, .ref a22, .ref a25, .ref a28, .ref a31, .int 0, .ref a34, .ref a37, .null, .null, .null, .null, .int 0, .null, .null, .null]) :: ws))).Nodup := al_nd nd39 h40
  rw [show pm_up (al A ((a37, pm_ia g 6400 (fun _ => 0)) :: (a34, pm_ia g 30 (fun _ => 0)) :: (a31, pm_ia g 30 (fun _ => 0)) :: (a28, pm_ia g 30 (fun _ => 0)) :: (a25, pm_ia g 30 (fun _ => 0)) :: (a22, pm_ia g 30 (fun _ => 0)) :: (a19, pm_ia g 160 (fun _ => 0)) :: (a16, pm_ia g 160 (fun _ => 0)) :: (a13, pm_ia g 160 (fun _ => 0)) :: (a10, pm_ia g 160 (fun _ => 0)) :: (a7, pm_ia g 24 (fun _ => 0)) :: (a4, pm_ia g 160 (fun _ => 0)) :: (a1, pm_ia g 160 (fun _ => 0)) :: (a, pm_ob 11 [.ref a1, .ref a4, .ref a7, .ref a10, .ref a13, .ref a16, .ref a19, .int 0, .int 0, .int 0, .int 0, .int 0, .int 0, .ref a22, .ref a25, .ref a28, .ref a31, .int 0, .ref a34, .ref a37, .null, .null, .null, .null, .int 0, .null, .null, .null]) :: ws)) a40 (pm_ia g 6400 (fun _ => 0)) = al A ((a40, pm_ia g 6400 (fun _ => 0)) :: ((a37, pm_ia g 6400 (fun _ => 0)) :: (a34, pm_ia g 30 (fun _ => 0)) :: (a31, pm_ia g 30 (fun _ => 0)) :: (a28, pm_ia g 30 (fun _ => 0)) :: (a25, pm_ia g 30 (fun _ => 0)) :: (a22, pm_ia g 30 (fun _ => 0)) :: (a19, pm_ia g 160 (fun _ => 0)) :: (a16, pm_ia g 160 (fun _ => 0)) :: (a13, pm_ia g 160 (fun _ => 0)) :: (a10, pm_ia g 160 (fun _ => 0)) :: (a7, pm_ia g 24 (fun _ => 0)) :: (a4, pm_ia g 160 (fun _ => 0)) :: (a1, pm_ia g 160 (fun _ => 0)) :: (a, pm_ob 11 [.ref a1, .ref a4, .ref a7, .ref a10, .ref a13, .ref a16, .ref a19, .int 0, .int 0, .int 0, .int 0, .int 0, .int 0, .ref a22, .ref a25, .ref a28, .ref a31, .int 0, .ref a34, .ref a37, .null, .null, .null, .null, .int 0, .null, .null, .null]) :: ws)) from rfl]
  refine Exists.intro _ (And.intro (al_get (k := 14) nd41 rfl) (And.intro rfl ?_))
  rw [show pm_up (al A ((a40, pm_ia g 6400 (fun _ => 0)) :: (a37, pm_ia g 6400 (fun _ => 0)) :: (a34, pm_ia g 30 (fun _ => 0)) :: (a31, pm_ia g 30 (fun _ => 0)) :: (a28, pm_ia g 30 (fun _ => 0)) :: (a25, pm_ia g 30 (fun _ => 0)) :: (a22, pm_ia g 30 (fun _ => 0)) :: (a19, pm_ia g 160 (fun _ => 0)) :: (a16, pm_ia g 160 (fun _ => 0)) :: (a13, pm_ia g 160 (fun _ => 0)) :: (a10, pm_ia g 160 (fun _ => 0)) :: (a7, pm_ia g 24 (fun _ => 0)) :: (a4, pm_ia g 160 (fun _ => 0)) :: (a1, pm_ia g 160 (fun _ => 0)) :: (a, pm_ob 11 [.ref a1, .ref a4, .ref a7, .ref a10, .ref a13, .ref a16, .ref a19, .int 0, .int 0, .int 0, .int 0, .int 0, .int 0, .ref a22, .ref a25, .ref a28, .ref a31, .int 0, .ref a34, .ref a37, .null, .null, .null, .null, .int 0, .null, .null, .null]) :: ws)) a (pm_ob 11 (([.ref a1, .ref a4, .ref a7, .ref a10, .ref a13, .ref a16, .ref a19, .int 0, .int 0, .int 0, .int 0, .int 0, .int 0, .ref a22, .ref a25, .ref a28, .ref a31, .int 0, .ref a34, .ref a37, .null, .null, .null, .null, .int 0, .null, .null, .null] : List Value).set 20 (.ref a40))) = al A ((a40, pm_ia g 6400 (fun _ => 0)) :: (a37, pm_ia g 6400 (fun _ => 0)) :: (a34, pm_ia g 30 (fun _ => 0)) :: (a31, pm_ia g 30 (fun _ => 0)) :: (a28, pm_ia g 30 (fun _ => 0)) :: (a25, pm_ia g 30 (fun _ => 0)) :: (a22, pm_ia g 30 (fun _ => 0)) :: (a19, pm_ia g 160 (fun _ => 0)) :: (a16, pm_ia g 160 (fun _ => 0)) :: (a13, pm_ia g 160 (fun _ => 0)) :: (a10, pm_ia g 160 (fun _ => 0)) :: (a7, pm_ia g 24 (fun _ => 0)) :: (a4, pm_ia g 160 (fun _ => 0)) :: (a1, pm_ia g 160 (fun _ => 0)) :: (a, pm_ob 11 [.ref a1, .ref a4, .ref a7, .ref a10, .ref a13, .ref a16, .ref a19, .int 0, .int 0, .int 0, .int 0, .int 0, .int 0, .ref a22, .ref a25, .ref a28, .ref a31, .int 0, .ref a34, .ref a37, .ref a40, .null, .null, .null, .int 0, .null, .null, .null]) :: ws) from al_set (k := 14) nd41 rfl rfl]
  have nd42 : (List.map Prod.fst ((a40, pm_ia g 6400 (fun _ => 0)) :: (a37, pm_ia g 6400 (fun _ => 0)) :: (a34, pm_ia g 30 (fun _ => 0)) :: (a31, pm_ia g 30 (fun _ => 0)) :: (a28, pm_ia g 30 (fun _ => 0)) :: (a25, pm_ia g 30 (fun _ => 0)) :: (a22, pm_ia g 30 (fun _ => 0)) :: (a19, pm_ia g 160 (fun _ => 0)) :: (a16, pm_ia g 160 (fun _ => 0)) :: (a13, pm_ia g 160 (fun _ => 0)) :: (a10, pm_ia g 160 (fun _ => 0)) :: (a7, pm_ia g 24 (fun _ => 0)) :: (a4, pm_ia g 160 (fun _ => 0)) :: (a1, pm_ia g 160 (fun _ => 0)) :: (a, pm_ob 11 [.ref a1, .ref a4, .ref a7, .ref a10, .ref a13, .ref a16, .ref a19, .int 0, .int 0, .int 0, .int 0, .int 0, .int 0, .ref a22, .ref a25, .ref a28, .ref a31, .int 0, .ref a34, .ref a37, .ref a40, .null, .null, .null, .int 0, .null, .null, .null]) :: ws)).Nodup := nd41
  refine And.intro rfl (And.intro rfl (fun a43 h43 => ?_))
  have g44 := al_none h43
  have nd44 : (List.map Prod.fst ((a43, pm_ia g 40 (fun _ => 0)) :: ((a40, pm_ia g 6400 (fun _ => 0)) :: (a37, pm_ia g 6400 (fun _ => 0)) :: (a34, pm_ia g 30 (fun _ => 0)) :: (a31, pm_ia g 30 (fun _ => 0)) :: (a28, pm_ia g 30 (fun _ => 0)) :: (a25, pm_ia g 30 (fun _ => 0)) :: (a22, pm_ia g 30 (fun _ => 0)) :: (a19, pm_ia g 160 (fun _ => 0)) :: (a16, pm_ia g 160 (fun _ => 0)) :: (a13, pm_ia g 160 (fun _ => 0)) :: (a10, pm_ia g 160 (fun _ => 0)) :: (a7, pm_ia g 24 (fun _ => 0)) :: (a4, pm_ia g 160 (fun _ => 0)) :: (a1, pm_ia g 160 (fun _ => 0)) :: (a, pm_ob 11 [.ref a1, .ref a4, .ref a7, .ref a10, .ref a13, .ref a16, .ref a19, .int 0, .int 0, .int 0, .int 0, .int 0, .int 0, .ref a22, .ref a25, .ref a28, .ref a31, .int 0, .ref a34, .ref a37, .ref a40, .null, .null, .null, .int 0, .null, .null, .null]) :: ws))).Nodup := al_nd nd42 h43
  rw [show pm_up (al A ((a40, pm_ia g 6400 (fun _ => 0)) :: (a37, pm_ia g 6400 (fun _ => 0)) :: (a34, pm_ia g 30 (fun _ => 0)) :: (a31, pm_ia g 30 (fun _ => 0)) :: (a28, pm_ia g 30 (fun _ => 0)) :: (a25, pm_ia g 30 (fun _ => 0)) :: (a22, pm_ia g 30 (fun _ => 0)) :: (a19, pm_ia g 160 (fun _ => 0)) :: (a16, pm_ia g 160 (fun _ => 0)) :: (a13, pm_ia g 160 (fun _ => 0)) :: (a10, pm_ia g 160 (fun _ => 0)) :: (a7, pm_ia g 24 (fun _ => 0)) :: (a4, pm_ia g 160 (fun _ => 0)) :: (a1, pm_ia g 160 (fun _ => 0)) :: (a, pm_ob 11 [.ref a1, .ref a4, .ref a7, .ref a10, .ref a13, .ref a16, .ref a19, .int 0, .int 0, .int 0, .int 0, .int 0, .int 0, .ref a22, .ref a25, .ref a28, .ref a31, .int 0, .ref a34, .ref a37, .ref a40, .null, .null, .null, .int 0, .null, .null, .null]) :: ws)) a43 (pm_ia g 40 (fun _ => 0)) = al A ((a43, pm_ia g 40 (fun _ => 0)) :: ((a40, pm_ia g 6400 (fun _ => 0)) :: (a37, pm_ia g 6400 (fun _ => 0)) :: (a34, pm_ia g 30 (fun _ => 0)) :: (a31, pm_ia g 30 (fun _ => 0)) :: (a28, pm_ia g 30 (fun _ => 0)) :: (a25, pm_ia g 30 (fun _ => 0)) :: (a22, pm_ia g 30 (fun _ => 0)) :: (a19, pm_ia g 160 (fun _ => 0)) :: (a16, pm_ia g 160 (fun _ => 0)) :: (a13, pm_ia g 160 (fun _ => 0)) :: (a10, pm_ia g 160 (fun _ => 0)) :: (a7, pm_ia g 24 (fun _ => 0)) :: (a4, pm_ia g 160 (fun _ => 0)) :: (a1, pm_ia g 160 (fun _ => 0)) :: (a, pm_ob 11 [.ref a1, .ref a4, .ref a7, .ref a10, .ref a13, .ref a16, .ref a19, .int 0, .int 0, .int 0, .int 0, .int 0, .int 0, .ref a22, .ref a25, .ref a28, .ref a31, .int 0, .ref a34, .ref a37, .ref a40, .null, .null, .null, .int 0, .null, .null, .null]) :: ws)) from rfl]
  refine Exists.intro _ (And.intro (al_get (k := 15) nd44 rfl) (And.intro rfl ?_))
  rw [show pm_up (al A ((a43, pm_ia g 40 (fun _ => 0)) :: (a40, pm_ia g 6400 (fun _ => 0)) :: (a37, pm_ia g 6400 (fun _ => 0)) :: (a34, pm_ia g 30 (fun _ => 0)) :: (a31, pm_ia g 30 (fun _ => 0)) :: (a28, pm_ia g 30 (fun _ => 0)) :: (a25, pm_ia g 30 (fun _ => 0)) :: (a22, pm_ia g 30 (fun _ => 0)) :: (a19, pm_ia g 160 (fun _ => 0)) :: (a16, pm_ia g 160 (fun _ => 0)) :: (a13, pm_ia g 160 (fun _ => 0)) :: (a10, pm_ia g 160 (fun _ => 0)) :: (a7, pm_ia g 24 (fun _ => 0)) :: (a4, pm_ia g 160 (fun _ => 0)) :: (a1, pm_ia g 160 (fun _ => 0)) :: (a, pm_ob 11 [.ref a1, .ref a4, .ref a7, .ref a10, .ref a13, .ref a16, .ref a19, .int 0, .int 0, .int 0, .int 0, .int 0, .int 0, .ref a22, .ref a25, .ref a28, .ref a31, .int 0, .ref a34, .ref a37, .ref a40, .null, .null, .null, .int 0, .null, .null, .null]) :: ws)) a (pm_ob 11 (([.ref a1, .ref a4, .ref a7, .ref a10, .ref a13, .ref a16, .ref a19, .int 0, .int 0, .int 0, .int 0, .int 0, .int 0, .ref a22, .ref a25, .ref a28, .ref a31, .int 0, .ref a34, .ref a37, .ref a40, .null, .null, .null, .int 0, .null, .null, .null] : List Value).set 21 (.ref a43))) = al A ((a43, pm_ia g 40 (fun _ => 0)) :: (a40, pm_ia g 6400 (fun _ => 0)) :: (a37, pm_ia g 6400 (fun _ => 0)) :: (a34, pm_ia g 30 (fun _ => 0)) :: (a31, pm_ia g 30 (fun _ => 0)) :: (a28, pm_ia g 30 (fun _ => 0)) :: (a25, pm_ia g 30 (fun _ => 0)) :: (a22, pm_ia g 30 (fun _ => 0)) :: (a19, pm_ia g 160 (fun _ => 0)) :: (a16, pm_ia g 160 (fun _ => 0)) :: (a13, pm_ia g 160 (fun _ => 0)) :: (a10, pm_ia g 160 (fun _ => 0)) :: (a7, pm_ia g 24 (fun _ => 0)) :: (a4, pm_ia g 160 (fun _ => 0)) :: (a1, pm_ia g 160 (fun _ => 0)) :: (a, pm_ob 11 [.ref a1, .ref a4, .ref a7, .ref a10, .ref a13, .ref a16, .ref a19, .int 0, .int 0, .int 0, .int 0, .int 0, .int 0, .ref a22, .ref a25, .ref a28, .ref a31, .int 0, .ref a34, .ref a37, .ref a40, .ref a43, .null, .null, .int 0, .null, .null, .null]) :: ws) from al_set (k := 15) nd44 rfl rfl]
  have nd45 : (List.map Prod.fst ((a43, pm_ia g 40 (fun _ => 0)) :: (a40, pm_ia g 6400 (fun _ => 0)) :: (a37, pm_ia g 6400 (fun _ => 0)) :: (a34, pm_ia g 30 (fun _ => 0)) :: (a31, pm_ia g 30 (fun _ => 0)) :: (a28, pm_ia g 30 (fun _ => 0)) :: (a25, pm_ia g 30 (fun _ => 0)) :: (a22, pm_ia g 30 (fun _ => 0)) :: (a19, pm_ia g 160 (fun _ => 0)) :: (a16, pm_ia g 160 (fun _ => 0)) :: (a13, pm_ia g 160 (fun _ => 0)) :: (a10, pm_ia g 160 (fun _ => 0)) :: (a7, pm_ia g 24 (fun _ => 0)) :: (a4, pm_ia g 160 (fun _ => 0)) :: (a1, pm_ia g 160 (fun _ => 0)) :: (a, pm_ob 11 [.ref a1, .ref a4, .ref a7, .ref a10, .ref a13, .ref a16, .ref a19, .int 0, .int 0, .int 0, .int 0, .int 0, .int 0, .ref a22, .ref a25, .ref a28, .ref a31, .int 0, .ref a34, .ref a37, .ref a40, .ref a43, .null, .null, .int 0, .null, .null, .null]) :: ws)).Nodup := nd44
  refine And.intro rfl (And.intro rfl (fun a46 h46 => ?_))
  have g47 := al_none h46
  have nd47 : (List.map Prod.fst ((a46, pm_ia g 40 (fun _ => 0)) :: ((a43, pm_ia g 40 (fun _ => 0)) :: (a40, pm_ia g 6400 (fun _ => 0)) :: (a37, pm_ia g 6400 (fun _ => 0)) :: (a34, pm_ia g 30 (fun _ => 0)) :: (a31, pm_ia g 30 (fun _ => 0)) :: (a28, pm_ia g 30 (fun _ => 0)) :: (a25, pm_ia g 30 (fun _ => 0)) :: (a22, pm_ia g 30 (fun _ => 0)) :: (a19, pm_ia g 160 (fun _ => 0)) :: (a16, pm_ia g 160 (fun _ => 0)) :: (a13, pm_ia g 160 (fun _ => 0)) :: (a10, pm_ia g 160 (fun _ => 0)) :: (a7, pm_ia g 24 (fun _ => 0)) :: (a4, pm_ia g 160 (fun _ => 0)) :: (a1, pm_ia g 160 (fun _ => 0)) :: (a, pm_ob 11 [.ref a1, .ref a4, .ref a7, .ref a10, .ref a13, .ref a16, .ref a19, .int 0, .int 0, .int 0, .int 0, .int 0, .int 0, .ref a22, .ref a25, .ref a28, .ref a31, .int 0, .ref a34, .ref a37, .ref a40, .ref a43, .null, .null, .int 0, .null, .null, .null]) :: ws))).Nodup := al_nd nd45 h46
  rw [show pm_up (al A ((a43, pm_ia g 40 (fun _ => 0)) :: (a40, pm_ia g 6400 (fun _ => 0)) :: (a37, pm_ia g 6400 (fun _ => 0)) :: (a34, pm_ia g 30 (fun _ => 0)) :: (a31, pm_ia g 30 (fun _ => 0)) :: (a28, pm_ia g 30 (fun _ => 0)) :: (a25, pm_ia g 30 (fun _ => 0)) :: (a22, pm_ia g 30 (fun _ => 0)) :: (a19, pm_ia g 160 (fun _ => 0)) :: (a16, pm_ia g 160 (fun _ => 0)) :: (a13, pm_ia g 160 (fun _ => 0)) :: (a10, pm_ia g 160 (fun _ => 0)) :: (a7, pm_ia g 24 (fun _ => 0)) :: (a4, pm_ia g 160 (fun _ => 0)) :: (a1, pm_ia g 160 (fun _ => 0)) :: (a, pm_ob 11 [.ref a1, .ref a4, .ref a7, .ref a10, .ref a13, .ref a16, .ref a19, .int 0, .int 0, .int 0, .int 0, .int 0, .int 0, .ref a22, .ref a25, .ref a28, .ref a31, .int 0, .ref a34, .ref a37, .ref a40, .ref a43, .null, .null, .int 0, .null, .null, .null]) :: ws)) a46 (pm_ia g 40 (fun _ => 0)) = al A ((a46, pm_ia g 40 (fun _ => 0)) :: ((a43, pm_ia g 40 (fun _ => 0)) :: (a40, pm_ia g 6400 (fun _ => 0)) :: (a37, pm_ia g 6400 (fun _ => 0)) :: (a34, pm_ia g 30 (fun _ => 0)) :: (a31, pm_ia g 30 (fun _ => 0)) :: (a28, pm_ia g 30 (fun _ => 0)) :: (a25, pm_ia g 30 (fun _ => 0)) :: (a22, pm_ia g 30 (fun _ => 0)) :: (a19, pm_ia g 160 (fun _ => 0)) :: (a16, pm_ia g 160 (fun _ => 0)) :: (a13, pm_ia g 160 (fun _ => 0)) :: (a10, pm_ia g 160 (fun _ => 0)) :: (a7, pm_ia g 24 (fun _ => 0)) :: (a4, pm_ia g 160 (fun _ => 0)) :: (a1, pm_ia g 160 (fun _ => 0)) :: (a, pm_ob 11 [.ref a1, .ref a4, .ref a7, .ref a10, .ref a13, .ref a16, .ref a19, .int 0, .int 0, .int 0, .int 0, .int 0, .int 0, .ref a22, .ref a25, .ref a28, .ref a31, .int 0, .ref a34, .ref a37, .ref a40, .ref a43, .null, .null, .int 0, .null, .null, .null]) :: ws)) from rfl]
  refine Exists.intro _ (And.intro (al_get (k := 16) nd47 rfl) (And.intro rfl ?_))
  rw [show pm_up (al A ((a46, pm_ia g 40 (fun _ => 0)) :: (a43, pm_ia g 40 (fun _ => 0)) :: (a40, pm_ia g 6400 (fun _ => 0)) :: (a37, pm_ia g 6400 (fun _ => 0)) :: (a34, pm_ia g 30 (fun _ => 0)) :: (a31, pm_ia g 30 (fun _ => 0)) :: (a28, pm_ia g 30 (fun _ => 0)) :: (a25, pm_ia g 30 (fun _ => 0)) :: (a22, pm_ia g 30 (fun _ => 0)) :: (a19, pm_ia g 160 (fun _ => 0)) :: (a16, pm_ia g 160 (fun _ => 0)) :: (a13, pm_ia g 160 (fun _ => 0)) :: (a10, pm_ia g 160 (fun _ => 0)) :: (a7, pm_ia g 24 (fun _ => 0)) :: (a4, pm_ia g 160 (fun _ => 0)) :: (a1, pm_ia g 160 (fun _ => 0)) :: (a, pm_ob 11 [.ref a1, .ref a4, .ref a7, .ref a10, .ref a13, .ref a16, .ref a19, .int 0, .int 0, .int 0, .int 0, .int 0, .int 0, .ref a22, .ref a25, .ref a28, .ref a31, .int 0, .ref a34, .ref a37, .ref a40, .ref a43, .null, .null, .int 0, .null, .null, .null]) :: ws)) a (pm_ob 11 (([.ref a1, .ref a4, .ref a7, .ref a10, .ref a13, .ref a16, .ref a19, .int 0, .int 0, .int 0, .int 0, .int 0, .int 0, .ref a22, .ref a25, .ref a28, .ref a31, .int 0, .ref a34, .ref a37, .ref a40, .ref a43, .null, .null, .int 0, .null, .null, .null] : List Value).set 22 (.ref a46))) = al A ((a46, pm_ia g 40 (fun _ => 0)) :: (a43, pm_ia g 40 (fun _ => 0)) :: (a40, pm_ia g 6400 (fun _ => 0)) :: (a37, pm_ia g 6400 (fun _ => 0)) :: (a34, pm_ia g 30 (fun _ => 0)) :: (a31, pm_ia g 30 (fun _ => 0)) :: (a28, pm_ia g 30 (fun _ => 0)) :: (a25, pm_ia g 30 (fun _ => 0)) :: (a22, pm_ia g 30 (fun _ => 0)) :: (a19, pm_ia g 160 (fun _ => 0)) :: (a16, pm_ia g 160 (fun _ => 0)) :: (a13, pm_ia g 160 (fun _ => 0)) :: (a10, pm_ia g 160 (fun _ => 0)) :: (a7, pm_ia g 24 (fun _ => 0)) :: (a4, pm_ia g 160 (fun _ => 0)) :: (a1, pm_ia g 160 (fun _ => 0)) :: (a, pm_ob 11 [.ref a1, .ref a4, .ref a7, .ref a10, .ref a13, .ref a16, .ref a19, .int 0, .int 0, .int 0, .int 0, .int 0, .int 0, .ref a22, .ref a25, .ref a28, .ref a31, .int 0, .ref a34, .ref a37, .ref a40, .ref a43, .ref a46, .null, .int 0, .null, .null, .null]) :: ws) from al_set (k := 16) nd47 rfl rfl]
  have nd48 : (List.map Prod.fst ((a46, pm_ia g 40 (fun _ => 0)) :: (a43, pm_ia g 40 (fun _ => 0)) :: (a40, pm_ia g 6400 (fun _ => 0)) :: (a37, pm_ia g 6400 (fun _ => 0)) :: (a34, pm_ia g 30 (fun _ => 0)) :: (a31, pm_ia g 30 (fun _ => 0)) :: (a28, pm_ia g 30 (fun _ => 0)) :: (a25, pm_ia g 30 (fun _ => 0)) :: (a22, pm_ia g 30 (fun _ => 0)) :: (a19, pm_ia g 160 (fun _ => 0)) :: (a16, pm_ia g 160 (fun _ => 0)) :: (a13, pm_ia g 160 (fun _ => 0)) :: (a10, pm_ia g 160 (fun _ => 0)) :: (a7, pm_ia g 24 (fun _ => 0)) :: (a4, pm_ia g 160 (fun _ => 0)) :: (a1, pm_ia g 160 (fun _ => 0)) :: (a, pm_ob 11 [.ref a1, .ref a4, .ref a7, .ref a10, .ref a13, .ref a16, .ref a19, .int 0, .int 0, .int 0, .int 0, .int 0, .int 0, .ref a22, .ref a25, .ref a28, .ref a31, .int 0, .ref a34, .ref a37, .ref a40, .ref a43, .ref a46, .null, .int 0, .null, .null, .null]) :: ws)).Nodup := nd47
  refine And.intro rfl (And.intro rfl (fun a49 h49 => ?_))
  have g50 := al_none h49
  have nd50 : (List.map Prod.fst ((a49, pm_ia g 24 (fun _ => 0)) :: ((a46, pm_ia g 40 (fun _ => 0)) :: (a43, pm_ia g 40 (fun _ => 0)) :: (a40, pm_ia g 6400 (fun _ => 0)) :: (a37, pm_ia g 6400 (fun _ => 0)) :: (a34, pm_ia g 30 (fun _ => 0)) :: (a31, pm_ia g 30 (fun _ => 0)) :: (a28, pm_ia g 30 (fun _ => 0)) :: (a25, pm_ia g 30 (fun _ => 0)) :: (a22, pm_ia g 30 (fun _ => 0)) :: (a19, pm_ia g 160 (fun _ => 0)) :: (a16, pm_ia g 160 (fun _ => 0)) :: (a13, pm_ia g 160 (fun _ => 0)) :: (a10, pm_ia g 160 (fun _ => 0)) :: (a7, pm_ia g 24 (fun _ => 0)) :: (a4, pm_ia g 160 (fun _ => 0)) :: (a1, pm_ia g 160 (fun _ => 0)) :: (a, pm_ob 11 [.ref a1, .ref a4, .ref a7, .ref a10, .ref a13, .ref a16, .ref a19, .int 0, .int 0, .int 0, .int 0, .int 0, .int 0, .ref a22, .ref a25, .ref a28, .ref a31, .int 0, .ref a34, .ref a37, .ref a40, .ref a43, .ref a46, .null, .int 0, .null, .null, .null]) :: ws))).Nodup := al_nd nd48 h49
  rw [show pm_up (al A ((a46, pm_ia g 40 (fun _ => 0)) :: (a43, pm_ia g 40 (fun _ => 0)) :: (a40, pm_ia g 6400 (fun _ => 0)) :: (a37, pm_ia g 6400 (fun _ => 0)) :: (a34, pm_ia g 30 (fun _ => 0)) :: (a31, pm_ia g 30 (fun _ => 0)) :: (a28, pm_ia g 30 (fun _ => 0)) :: (a25, pm_ia g 30 (fun _ => 0)) :: (a22, pm_ia g 30 (fun _ => 0)) :: (a19, pm_ia g 160 (fun _ => 0)) :: (a16, pm_ia g 160 (fun _ => 0)) :: (a13, pm_ia g 160 (fun _ => 0)) :: (a10, pm_ia g 160 (fun _ => 0)) :: (a7, pm_ia g 24 (fun _ => 0)) :: (a4, pm_ia g 160 (fun _ => 0)) :: (a1, pm_ia g 160 (fun _ => 0)) :: (a, pm_ob 11 [.ref a1, .ref a4, .ref a7, .ref a10, .ref a13, .ref a16, .ref a19, .int 0, .int 0, .int 0, .int 0, .int 0, .int 0, .ref a22, .ref a25, .ref a28, .ref a31, .int 0, .ref a34, .ref a37, .ref a40, .ref a43, .ref a46, .null, .int 0, .null, .null, .null]) :: ws)) a49 (pm_ia g 24 (fun _ => 0)) = al A ((a49, pm_ia g 24 (fun _ => 0)) :: ((a46, pm_ia g 40 (fun _ => 0)) :: (a43, pm_ia g 40 (fun _ => 0)) :: (a40, pm_ia g 6400 (fun _ => 0)) :: (a37, pm_ia g 6400 (fun _ => 0)) :: (a34, pm_ia g 30 (fun _ => 0)) :: (a31, pm_ia g 30 (fun _ => 0)) :: (a28, pm_ia g 30 (fun _ => 0)) :: (a25, pm_ia g 30 (fun _ => 0)) :: (a22, pm_ia g 30 (fun _ => 0)) :: (a19, pm_ia g 160 (fun _ => 0)) :: (a16, pm_ia g 160 (fun _ => 0)) :: (a13, pm_ia g 160 (fun _ => 0)) :: (a10, pm_ia g 160 (fun _ => 0)) :: (a7, pm_ia g 24 (fun _ => 0)) :: (a4, pm_ia g 160 (fun _ => 0)) :: (a1, pm_ia g 160 (fun _ => 0)) :: (a, pm_ob 11 [.ref a1, .ref a4, .ref a7, .ref a10, .ref a13, .ref a16, .ref a19, .int 0, .int 0, .int 0, .int 0, .int 0, .int 0, .ref a22, .ref a25, .ref a28, .ref a31, .int 0, .ref a34, .ref a37, .ref a40, .ref a43, .ref a46, .null, .int 0, .null, .null, .null]) :: ws)) from rfl]
  refine Exists.intro _ (And.intro (al_get (k := 17) nd50 rfl) (And.intro rfl ?_))
  rw [show pm_up (al A ((a49, pm_ia g 24 (fun _ => 0)) :: (a46, pm_ia g 40 (fun _ => 0)) :: (a43, pm_ia g 40 (fun _ => 0)) :: (a40, pm_ia g 6400 (fun _ => 0)) :: (a37, pm_ia g 6400 (fun _ => 0)) :: (a34, pm_ia g 30 (fun _ => 0)) :: (a31, pm_ia g 30 (fun _ => 0)) :: (a28, pm_ia g 30 (fun _ => 0)) :: (a25, pm_ia g 30 (fun _ => 0)) :: (a22, pm_ia g 30 (fun _ => 0)) :: (a19, pm_ia g 160 (fun _ => 0)) :: (a16, pm_ia g 160 (fun _ => 0)) :: (a13, pm_ia g 160 (fun _ => 0)) :: (a10, pm_ia g 160 (fun _ => 0)) :: (a7, pm_ia g 24 (fun _ => 0)) :: (a4, pm_ia g 160 (fun _ => 0)) :: (a1, pm_ia g 160 (fun _ => 0)) :: (a, pm_ob 11 [.ref a1, .ref a4, .ref a7, .ref a10, .ref a13, .ref a16, .ref a19, .int 0, .int 0, .int 0, .int 0, .int 0, .int 0, .ref a22, .ref a25, .ref a28, .ref a31, .int 0, .ref a34, .ref a37, .ref a40, .ref a43, .ref a46, .null, .int 0, .null, .null, .null]) :: ws)) a (pm_ob 11 (([.ref a1, .ref a4, .ref a7, .ref a10, .ref a13, .ref a16, .ref a19, .int 0, .int 0, .int 0, .int 0, .int 0, .int 0, .ref a22, .ref a25, .ref a28, .ref a31, .int 0, .ref a34, .ref a37, .ref a40, .ref a43, .ref a46, .null, .int 0, .null, .null, .null] : List Value).set 23 (.ref a49))) = al A ((a49, pm_ia g 24 (fun _ => 0)) :: (a46, pm_ia g 40 (fun _ => 0)) :: (a43, pm_ia g 40 (fun _ => 0)) :: (a40, pm_ia g 6400 (fun _ => 0)) :: (a37, pm_ia g 6400 (fun _ => 0)) :: (a34, pm_ia g 30 (fun _ => 0)) :: (a31, pm_ia g 30 (fun _ => 0)) :: (a28, pm_ia g 30 (fun _ => 0)) :: (a25, pm_ia g 30 (fun _ => 0)) :: (a22, pm_ia g 30 (fun _ => 0)) :: (a19, pm_ia g 160 (fun _ => 0)) :: (a16, pm_ia g 160 (fun _ => 0)) :: (a13, pm_ia g 160 (fun _ => 0)) :: (a10, pm_ia g 160 (fun _ => 0)) :: (a7, pm_ia g 24 (fun _ => 0)) :: (a4, pm_ia g 160 (fun _ => 0)) :: (a1, pm_ia g 160 (fun _ => 0)) :: (a, pm_ob 11 [.ref a1, .ref a4, .ref a7, .ref a10, .ref a13, .ref a16, .ref a19, .int 0, .int 0, .int 0, .int 0, .int 0, .int 0, .ref a22, .ref a25, .ref a28, .ref a31, .int 0, .ref a34, .ref a37, .ref a40, .ref a43, .ref a46, .ref a49, .int 0, .null, .null, .null]) :: ws) from al_set (k := 17) nd50 rfl rfl]
  have nd51 : (List.map Prod.fst ((a49, pm_ia g 24 (fun _ => 0)) :: (a46, pm_ia g 40 (fun _ => 0)) :: (a43, pm_ia g 40 (fun _ => 0)) :: (a40, pm_ia g 6400 (fun _ => 0)) :: (a37, pm_ia g 6400 (fun _ => 0)) :: (a34, pm_ia g 30 (fun _ => 0)) :: (a31, pm_ia g 30 (fun _ => 0)) :: (a28, pm_ia g 30 (fun _ => 0)) :: (a25, pm_ia g 30 (fun _ => 0)) :: (a22, pm_ia g 30 (fun _ => 0)) :: (a19, pm_ia g 160 (fun _ => 0)) :: (a16, pm_ia g 160 (fun _ => 0)) :: (a13, pm_ia g 160 (fun _ => 0)) :: (a10, pm_ia g 160 (fun _ => 0)) :: (a7, pm_ia g 24 (fun _ => 0)) :: (a4, pm_ia g 160 (fun _ => 0)) :: (a1, pm_ia g 160 (fun _ => 0)) :: (a, pm_ob 11 [.ref a1, .ref a4, .ref a7, .ref a10, .ref a13, .ref a16, .ref a19, .int 0, .int 0, .int 0, .int 0, .int 0, .int 0, .ref a22, .ref a25, .ref a28, .ref a31, .int 0, .ref a34, .ref a37, .ref a40, .ref a43, .ref a46, .ref a49, .int 0, .null, .null, .null]) :: ws)).Nodup := nd50
  refine And.intro rfl (And.intro rfl (fun a52 h52 => ?_))
  have g53 := al_none h52
  have nd53 : (List.map Prod.fst ((a52, pm_ia g 160 (fun _ => 0)) :: ((a49, pm_ia g 24 (fun _ => 0)) :: (a46, pm_ia g 40 (fun _ => 0)) :: (a43, pm_ia g 40 (fun _ => 0)) :: (a40, pm_ia g 6400 (fun _ => 0)) :: (a37, pm_ia g 6400 (fun _ => 0)) :: (a34, pm_ia g 30 (fun _ => 0)) :: (a31, pm_ia g 30 (fun _ => 0)) :: (a28, pm_ia g 30 (fun _ => 0)) :: (a25, pm_ia g 30 (fun _ => 0)) :: (a22, pm_ia g 30 (fun _ => 0)) :: (a19, pm_ia g 160 (fun _ => 0)) :: (a16, pm_ia g 160 (fun _ => 0)) :: (a13, pm_ia g 160 (fun _ => 0)) :: (a10, pm_ia g 160 (fun _ => 0)) :: (a7, pm_ia g 24 (fun _ => 0)) :: (a4, pm_ia g 160 (fun _ => 0)) :: (a1, pm_ia g 160 (fun _ => 0)) :: (a, pm_ob 11 [.ref a1, .ref a4, .ref a7, .ref a10, .ref a13, .ref a16, .ref a19, .int 0, .int 0, .int 0, .int 0, .int 0, .int 0, .ref a22, .ref a25, .ref a28, .ref a31, .int 0, .ref a34, .ref a37, .ref a40, .ref a43, .ref a46, .ref a49, .int 0, .null, .null, .null]) :: ws))).Nodup := al_nd nd51 h52
  rw [show pm_up (al A ((a49, pm_ia g 24 (fun _ => 0)) :: (a46, pm_ia g 40 (fun _ => 0)) :: (a43, pm_ia g 40 (fun _ => 0)) :: (a40, pm_ia g 6400 (fun _ => 0)) :: (a37, pm_ia g 6400 (fun _ => 0)) :: (a34, pm_ia g 30 (fun _ => 0)) :: (a31, pm_ia g 30 (fun _ => 0)) :: (a28, pm_ia g 30 (fun _ => 0)) :: (a25, pm_ia g 30 (fun _ => 0)) :: (a22, pm_ia g 30 (fun _ => 0)) :: (a19, pm_ia g 160 (fun _ => 0)) :: (a16, pm_ia g 160 (fun _ => 0)) :: (a13, pm_ia g 160 (fun _ => 0)) :: (a10, pm_ia g 160 (fun _ => 0)) :: (a7, pm_ia g 24 (fun _ => 0)) :: (a4, pm_ia g 160 (fun _ => 0)) :: (a1, pm_ia g 160 (fun _ => 0)) :: (a, pm_ob 11 [.ref a1, .ref a4, .ref a7, .ref a10, .ref a13, .ref a16, .ref a19, .int 0, .int 0, .int 0, .int 0, .int 0, .int 0, .ref a22, .ref a25, .ref a28, .ref a31, .int 0, .ref a34, .ref a37, .ref a40, .ref a43, .ref a46, .ref a49, .int 0, .null, .null, .null]) :: ws)) a52 (pm_ia g 160 (fun _ => 0)) = al A ((a52, pm_ia g 160 (fun _ => 0)) :: ((a49, pm_ia g 24 (fun _ => 0)) :: (a46, pm_ia g 40 (fun _ => 0)) :: (a43, pm_ia g 40 (fun _ => 0)) :: (a40, pm_ia g 6400 (fun _ => 0)) :: (a37, pm_ia g 6400 (fun _ => 0)) :: (a34, pm_ia g 30 (fun _ => 0)) :: (a31, pm_ia g 30 (fun _ => 0)) :: (a28, pm_ia g 30 (fun _ => 0)) :: (a25, pm_ia g 30 (fun _ => 0)) :: (a22, pm_ia g 30 (fun _ => 0)) :: (a19, pm_ia g 160 (fun _ => 0)) :: (a16, pm_ia g 160 (fun _ => 0)) :: (a13, pm_ia g 160 (fun _ => 0)) :: (a10, pm_ia g 160 (fun _ => 0)) :: (a7, pm_ia g 24 (fun _ => 0)) :: (a4, pm_ia g 160 (fun _ => 0)) :: (a1, pm_ia g 160 (fun _ => 0)) :: (a, pm_ob 11 [.ref a1, .ref a4, .ref a7, .ref a10, .ref a13, .ref a16, .ref a19, .int 0, .int 0, .int 0, .int 0, .int 0, .int 0, .ref a22, .ref a25, .ref a28, .ref a31, .int 0, .ref a34, .ref a37, .ref a40, .ref a43, .ref a46, .ref a49, .int 0, .null, .null, .null]) :: ws)) from rfl]
  refine Exists.intro _ (And.intro (al_get (k := 18) nd53 rfl) (And.intro rfl ?_))
  rw [show pm_up (al A ((a52, pm_ia g 160 (fun _ => 0)) :: (a49, pm_ia g 24 (fun _ => 0)) :: (a46, pm_ia g 40 (fun _ => 0)) :: (a43, pm_ia g 40 (fun _ => 0)) :: (a40, pm_ia g 6400 (fun _ => 0)) :: (a37, pm_ia g 6400 (fun _ => 0)) :: (a34, pm_ia g 30 (fun _ => 0)) :: (a31, pm_ia g 30 (fun _ => 0)) :: (a28, pm_ia g 30 (fun _ => 0)) :: (a25, pm_ia g 30 (fun _ => 0)) :: (a22, pm_ia g 30 (fun _ => 0)) :: (a19, pm_ia g 160 (fun _ => 0)) :: (a16, pm_ia g 160 (fun _ => 0)) :: (a13, pm_ia g 160 (fun _ => 0)) :: (a10, pm_ia g 160 (fun _ => 0)) :: (a7, pm_ia g 24 (fun _ => 0)) :: (a4, pm_ia g 160 (fun _ => 0)) :: (a1, pm_ia g 160 (fun _ => 0)) :: (a, pm_ob 11 [.ref a1, .ref a4, .ref a7, .ref a10, .ref a13, .ref a16, .ref a19, .int 0, .int 0, .int 0, .int 0, .int 0, .int 0, .ref a22, .ref a25, .ref a28, .ref a31, .int 0, .ref a34, .ref a37, .ref a40, .ref a43, .ref a46, .ref a49, .int 0, .null, .null, .null]) :: ws)) a (pm_ob 11 (([.ref a1, .ref a4, .ref a7, .ref a10, .ref a13, .ref a16, .ref a19, .int 0, .int 0, .int 0, .int 0, .int 0, .int 0, .ref a22, .ref a25, .ref a28, .ref a31, .int 0, .ref a34, .ref a37, .ref a40, .ref a43, .ref a46, .ref a49, .int 0, .null, .null, .null] : List Value).set 25 (.ref a52))) = al A ((a52, pm_ia g 160 (fun _ => 0)) :: (a49, pm_ia g 24 (fun _ => 0)) :: (a46, pm_ia g 40 (fun _ => 0)) :: (a43, pm_ia g 40 (fun _ => 0)) :: (a40, pm_ia g 6400 (fun _ => 0)) :: (a37, pm_ia g 6400 (fun _ => 0)) :: (a34, pm_ia g 30 (fun _ => 0)) :: (a31, pm_ia g 30 (fun _ => 0)) :: (a28, pm_ia g 30 (fun _ => 0)) :: (a25, pm_ia g 30 (fun _ => 0)) :: (a22, pm_ia g 30 (fun _ => 0)) :: (a19, pm_ia g 160 (fun _ => 0)) :: (a16, pm_ia g 160 (fun _ => 0)) :: (a13, pm_ia g 160 (fun _ => 0)) :: (a10, pm_ia g 160 (fun _ => 0)) :: (a7, pm_ia g 24 (fun _ => 0)) :: (a4, pm_ia g 160 (fun _ => 0)) :: (a1, pm_ia g 160 (fun _ => 0)) :: (a, pm_ob 11 [.ref a1, .ref a4, .ref a7, .ref a10, .ref a13, .ref a16, .ref a19, .int 0, .int 0, .int 0, .int 0, .int 0, .int 0, .ref a22, .ref a25, .ref a28, .ref a31, .int 0, .ref a34, .ref a37, .ref a40, .ref a43, .ref a46, .ref a49, .int 0, .ref a52, .null, .null]) :: ws) from al_set (k := 18) nd53 rfl rfl]
  have nd54 : (List.map Prod.fst ((a52, pm_ia g 160 (fun _ => 0)) :: (a49, pm_ia g 24 (fun _ => 0)) :: (a46, pm_ia g 40 (fun _ => 0)) :: (a43, pm_ia g 40 (fun _ => 0)) :: (a40, pm_ia g 6400 (fun _ => 0)) :: (a37, pm_ia g 6400 (fun _ => 0)) :: (a34, pm_ia g 30 (fun _ => 0)) :: (a31, pm_ia g 30 (fun _ => 0)) :: (a28, pm_ia g 30 (fun _ => 0)) :: (a25, pm_ia g 30 (fun _ => 0)) :: (a22, pm_ia g 30 (fun _ => 0)) :: (a19, pm_ia g 160 (fun _ => 0)) :: (a16, pm_ia g 160 (fun _ => 0)) :: (a13, pm_ia g 160 (fun _ => 0)) :: (a10, pm_ia g 160 (fun _ => 0)) :: (a7, pm_ia g 24 (fun _ => 0)) :: (a4, pm_ia g 160 (fun _ => 0)) :: (a1, pm_ia g 160 (fun _ => 0)) :: (a, pm_ob 11 [.ref a1, .ref a4, .ref a7, .ref a10, .ref a13, .ref a16, .ref a19, .int 0, .int 0, .int 0, .int 0, .int 0, .int 0, .ref a22, .ref a25, .ref a28, .ref a31, .int 0, .ref a34, .ref a37, .ref a40, .ref a43, .ref a46, .ref a49, .int 0, .ref a52, .null, .null]) :: ws)).Nodup := nd53
  refine And.intro rfl (And.intro rfl (fun a55 h55 => ?_))
  have g56 := al_none h55
  have nd56 : (List.map Prod.fst ((a55, pm_ia g 1449 (fun _ => 0)) :: ((a52, pm_ia g 160 (fun _ => 0)) :: (a49, pm_ia g 24 (fun _ => 0)) :: (a46, pm_ia g 40 (fun _ => 0)) :: (a43, pm_ia g 40 (fun _ => 0)) :: (a40, pm_ia g 6400 (fun _ => 0)) :: (a37, pm_ia g 6400 (fun _ => 0)) :: (a34, pm_ia g 30 (fun _ => 0)) :: (a31, pm_ia g 30 (fun _ => 0)) :: (a28, pm_ia g 30 (fun _ => 0)) :: (a25, pm_ia g 30 (fun _ => 0)) :: (a22, pm_ia g 30 (fun _ => 0)) :: (a19, pm_ia g 160 (fun _ => 0)) :: (a16, pm_ia g 160 (fun _ => 0)) :: (a13, pm_ia g 160 (fun _ => 0)) :: (a10, pm_ia g 160 (fun _ => 0)) :: (a7, pm_ia g 24 (fun _ => 0)) :: (a4, pm_ia g 160 (fun _ => 0)) :: (a1, pm_ia g 160 (fun _ => 0)) :: (a, pm_ob 11 [.ref a1, .ref a4, .ref a7, .ref a10, .ref a13, .ref a16, .ref a19, .int 0, .int 0, .int 0, .int 0, .int 0, .int 0, .ref a22, .ref a25, .ref a28, .ref a31, .int 0, .ref a34, .ref a37, .ref a40, .ref a43, .ref a46, .ref a49, .int 0, .ref a52, .null, .null]) :: ws))).Nodup := al_nd nd54 h55
  rw [show pm_up (al A ((a52, pm_ia g 160 (fun _ => 0)) :: (a49, pm_ia g 24 (fun _ => 0)) :: (a46, pm_ia g 40 (fun _ => 0)) :: (a43, pm_ia g 40 (fun _ => 0)) :: (a40, pm_ia g 6400 (fun _ => 0)) :: (a37, pm_ia g 6400 (fun _ => 0)) :: (a34, pm_ia g 30 (fun _ => 0)) :: (a31, pm_ia g 30 (fun _ => 0)) :: (a28, pm_ia g 30 (fun _ => 0)) :: (a25, pm_ia g 30 (fun _ => 0)) :: (a22, pm_ia g 30 (fun _ => 0)) :: (a19, pm_ia g 160 (fun _ => 0)) :: (a16, pm_ia g 160 (fun _ => 0)) :: (a13, pm_ia g 160 (fun _ => 0)) :: (a10, pm_ia g 160 (fun _ => 0)) :: (a7, pm_ia g 24 (fun _ => 0)) :: (a4, pm_ia g 160 (fun _ => 0)) :: (a1, pm_ia g 160 (fun _ => 0)) :: (a, pm_ob 11 [.ref a1, .ref a4, .ref a7, .ref a10, .ref a13, .ref a16, .ref a19, .int 0, .int 0, .int 0, .int 0, .int 0, .int 0, .ref a22, .ref a25, .ref a28, .ref a31, .int 0, .ref a34, .ref a37, .ref a40, .ref a43, .ref a46, .ref a49, .int 0, .ref a52, .null, .null]) :: ws)) a55 (pm_ia g 1449 (fun _ => 0)) = al A ((a55, pm_ia g 1449 (fun _ => 0)) :: ((a52, pm_ia g 160 (fun _ => 0)) :: (a49, pm_ia g 24 (fun _ => 0)) :: (a46, pm_ia g 40 (fun _ => 0)) :: (a43, pm_ia g 40 (fun _ => 0)) :: (a40, pm_ia g 6400 (fun _ => 0)) :: (a37, pm_ia g 6400 (fun _ => 0)) :: (a34, pm_ia g 30 (fun _ => 0)) :: (a31, pm_ia g 30 (fun _ => 0)) :: (a28, pm_ia g 30 (fun _ => 0)) :: (a25, pm_ia g 30 (fun _ => 0)) :: (a22, pm_ia g 30 (fun _ => 0)) :: (a19, pm_ia g 160 (fun _ => 0)) :: (a16, pm_ia g 160 (fun _ => 0)) :: (a13, pm_ia g 160 (fun _ => 0)) :: (a10, pm_ia g 160 (fun _ => 0)) :: (a7, pm_ia g 24 (fun _ => 0)) :: (a4, pm_ia g 160 (fun _ => 0)) :: (a1, pm_ia g 160 (fun _ => 0)) :: (a, pm_ob 11 [.ref a1, .ref a4, .ref a7, .ref a10, .ref a13, .ref a16, .ref a19, .int 0, .int 0, .int 0, .int 0, .int 0, .int 0, .ref a22, .ref a25, .ref a28, .ref a31, .int 0, .ref a34, .ref a37, .ref a40, .ref a43, .ref a46, .ref a49, .int 0, .ref a52, .null, .null]) :: ws)) from rfl]
  refine Exists.intro _ (And.intro (al_get (k := 19) nd56 rfl) (And.intro rfl ?_))
  rw [show pm_up (al A ((a55, pm_ia g 1449 (fun _ => 0)) :: (a52, pm_ia g 160 (fun _ => 0)) :: (a49, pm_ia g 24 (fun _ => 0)) :: (a46, pm_ia g 40 (fun _ => 0)) :: (a43, pm_ia g 40 (fun _ => 0)) :: (a40, pm_ia g 6400 (fun _ => 0)) :: (a37, pm_ia g 6400 (fun _ => 0)) :: (a34, pm_ia g 30 (fun _ => 0)) :: (a31, pm_ia g 30 (fun _ => 0)) :: (a28, pm_ia g 30 (fun _ => 0)) :: (a25, pm_ia g 30 (fun _ => 0)) :: (a22, pm_ia g 30 (fun _ => 0)) :: (a19, pm_ia g 160 (fun _ => 0)) :: (a16, pm_ia g 160 (fun _ => 0)) :: (a13, pm_ia g 160 (fun _ => 0)) :: (a10, pm_ia g 160 (fun _ => 0)) :: (a7, pm_ia g 24 (fun _ => 0)) :: (a4, pm_ia g 160 (fun _ => 0)) :: (a1, pm_ia g 160 (fun _ => 0)) :: (a, pm_ob 11 [.ref a1, .ref a4, .ref a7, .ref a10, .ref a13, .ref a16, .ref a19, .int 0, .int 0, .int 0, .int 0, .int 0, .int 0, .ref a22, .ref a25, .ref a28, .ref a31, .int 0, .ref a34, .ref a37, .ref a40, .ref a43, .ref a46, .ref a49, .int 0, .ref a52, .null, .null]) :: ws)) a (pm_ob 11 (([.ref a1, .ref a4, .ref a7, .ref a10, .ref a13, .ref a16, .ref a19, .int 0, .int 0, .int 0, .int 0, .int 0, .int 0, .ref a22, .ref a25, .ref a28, .ref a31, .int 0, .ref a34, .ref a37, .ref a40, .ref a43, .ref a46, .ref a49, .int 0, .ref a52, .null, .null] : List Value).set 26 (.ref a55))) = al A ((a55, pm_ia g 1449 (fun _ => 0)) :: (a52, pm_ia g 160 (fun _ => 0)) :: (a49, pm_ia g 24 (fun _ => 0)) :: (a46, pm_ia g 40 (fun _ => 0)) :: (a43, pm_ia g 40 (fun _ => 0)) :: (a40, pm_ia g 6400 (fun _ => 0)) :: (a37, pm_ia g 6400 (fun _ => 0)) :: (a34, pm_ia g 30 (fun _ => 0)) :: (a31, pm_ia g 30 (fun _ => 0)) :: (a28, pm_ia g 30 (fun _ => 0)) :: (a25, pm_ia g 30 (fun _ => 0)) :: (a22, pm_ia g 30 (fun _ => 0)) :: (a19, pm_ia g 160 (fun _ => 0)) :: (a16, pm_ia g 160 (fun _ => 0)) :: (a13, pm_ia g 160 (fun _ => 0)) :: (a10, pm_ia g 160 (fun _ => 0)) :: (a7, pm_ia g 24 (fun _ => 0)) :: (a4, pm_ia g 160 (fun _ => 0)) :: (a1, pm_ia g 160 (fun _ => 0)) :: (a, pm_ob 11 [.ref a1, .ref a4, .ref a7, .ref a10, .ref a13, .ref a16, .ref a19, .int 0, .int 0, .int 0, .int 0, .int 0, .int 0, .ref a22, .ref a25, .ref a28, .ref a31, .int 0, .ref a34, .ref a37, .ref a40, .ref a43, .ref a46, .ref a49, .int 0, .ref a52, .ref a55, .null]) :: ws) from al_set (k := 19) nd56 rfl rfl]
  have nd57 : (List.map Prod.fst ((a55, pm_ia g 1449 (fun _ => 0)) :: (a52, pm_ia g 160 (fun _ => 0)) :: (a49, pm_ia g 24 (fun _ => 0)) :: (a46, pm_ia g 40 (fun _ => 0)) :: (a43, pm_ia g 40 (fun _ => 0)) :: (a40, pm_ia g 6400 (fun _ => 0)) :: (a37, pm_ia g 6400 (fun _ => 0)) :: (a34, pm_ia g 30 (fun _ => 0)) :: (a31, pm_ia g 30 (fun _ => 0)) :: (a28, pm_ia g 30 (fun _ => 0)) :: (a25, pm_ia g 30 (fun _ => 0)) :: (a22, pm_ia g 30 (fun _ => 0)) :: (a19, pm_ia g 160 (fun _ => 0)) :: (a16, pm_ia g 160 (fun _ => 0)) :: (a13, pm_ia g 160 (fun _ => 0)) :: (a10, pm_ia g 160 (fun _ => 0)) :: (a7, pm_ia g 24 (fun _ => 0)) :: (a4, pm_ia g 160 (fun _ => 0)) :: (a1, pm_ia g 160 (fun _ => 0)) :: (a, pm_ob 11 [.ref a1, .ref a4, .ref a7, .ref a10, .ref a13, .ref a16, .ref a19, .int 0, .int 0, .int 0, .int 0, .int 0, .int 0, .ref a22, .ref a25, .ref a28, .ref a31, .int 0, .ref a34, .ref a37, .ref a40, .ref a43, .ref a46, .ref a49, .int 0, .ref a52, .ref a55, .null]) :: ws)).Nodup := nd56
  refine And.intro rfl (And.intro rfl (fun a58 h58 => ?_))
  have g59 := al_none h58
  have nd59 : (List.map Prod.fst ((a58, pm_ia g 1449 (fun _ => 0)) :: ((a55, pm_ia g 1449 (fun _ => 0)) :: (a52, pm_ia g 160 (fun _ => 0)) :: (a49, pm_ia g 24 (fun _ => 0)) :: (a46, pm_ia g 40 (fun _ => 0)) :: (a43, pm_ia g 40 (fun _ => 0)) :: (a40, pm_ia g 6400 (fun _ => 0)) :: (a37, pm_ia g 6400 (fun _ => 0)) :: (a34, pm_ia g 30 (fun _ => 0)) :: (a31, pm_ia g 30 (fun _ => 0)) :: (a28, pm_ia g 30 (fun _ => 0)) :: (a25, pm_ia g 30 (fun _ => 0)) :: (a22, pm_ia g 30 (fun _ => 0)) :: (a19, pm_ia g 160 (fun _ => 0)) :: (a16, pm_ia g 160 (fun _ => 0)) :: (a13, pm_ia g 160 (fun _ => 0)) :: (a10, pm_ia g 160 (fun _ => 0)) :: (a7, pm_ia g 24 (fun _ => 0)) :: (a4, pm_ia g 160 (fun _ => 0)) :: (a1, pm_ia g 160 (fun _ => 0)) :: (a, pm_ob 11 [.ref a1, .ref a4, .ref a7, .ref a10, .ref a13, .ref a16, .ref a19, .int 0, .int 0, .int 0, .int 0, .int 0, .int 0, .ref a22, .ref a25, .ref a28, .ref a31, .int 0, .ref a34, .ref a37, .ref a40, .ref a43, .ref a46, .ref a49, .int 0, .ref a52, .ref a55, .null]) :: ws))).Nodup := al_nd nd57 h58
  rw [show pm_up (al A ((a55, pm_ia g 1449 (fun _ => 0)) :: (a52, pm_ia g 160 (fun _ => 0)) :: (a49, pm_ia g 24 (fun _ => 0)) :: (a46, pm_ia g 40 (fun _ => 0)) :: (a43, pm_ia g 40 (fun _ => 0)) :: (a40, pm_ia g 6400 (fun _ => 0)) :: (a37, pm_ia g 6400 (fun _ => 0)) :: (a34, pm_ia g 30 (fun _ => 0)) :: (a31, pm_ia g 30 (fun _ => 0)) :: (a28, pm_ia g 30 (fun _ => 0)) :: (a25, pm_ia g 30 (fun _ => 0)) :: (a22, pm_ia g 30 (fun _ => 0)) :: (a19, pm_ia g 160 (fun _ => 0)) :: (a16, pm_ia g 160 (fun _ => 0)) :: (a13, pm_ia g 160 (fun _ => 0)) :: (a10, pm_ia g 160 (fun _ => 0)) :: (a7, pm_ia g 24 (fun _ => 0)) :: (a4, pm_ia g 160 (fun _ => 0)) :: (a1, pm_ia g 160 (fun _ => 0)) :: (a, pm_ob 11 [.ref a1, .ref a4, .ref a7, .ref a10, .ref a13, .ref a16, .ref a19, .int 0, .int 0, .int 0, .int 0, .int 0, .int 0, .ref a22, .ref a25, .ref a28, .ref a31, .int 0, .ref a34, .ref a37, .ref a40, .ref a43, .ref a46, .ref a49, .int 0, .ref a52, .ref a55, .null]) :: ws)) a58 (pm_ia g 1449 (fun _ => 0)) = al A ((a58, pm_ia g 1449 (fun _ => 0)) :: ((a55, pm_ia g 1449 (fun _ => 0)) :: (a52, pm_ia g 160 (fun _ => 0)) :: (a49, pm_ia g 24 (fun _ => 0)) :: (a46, pm_ia g 40 (fun _ => 0)) :: (a43, pm_ia g 40 (fun _ => 0)) :: (a40, pm_ia g 6400 (fun _ => 0)) :: (a37, pm_ia g 6400 (fun _ => 0)) :: (a34, pm_ia g 30 (fun _ => 0)) :: (a31, pm_ia g 30 (fun _ => 0)) :: (a28, pm_ia g 30 (fun _ => 0)) :: (a25, pm_ia g 30 (fun _ => 0)) :: (a22, pm_ia g 30 (fun _ => 0)) :: (a19, pm_ia g 160 (fun _ => 0)) :: (a16, pm_ia g 160 (fun _ => 0)) :: (a13, pm_ia g 160 (fun _ => 0)) :: (a10, pm_ia g 160 (fun _ => 0)) :: (a7, pm_ia g 24 (fun _ => 0)) :: (a4, pm_ia g 160 (fun _ => 0)) :: (a1, pm_ia g 160 (fun _ => 0)) :: (a, pm_ob 11 [.ref a1, .ref a4, .ref a7, .ref a10, .ref a13, .ref a16, .ref a19, .int 0, .int 0, .int 0, .int 0, .int 0, .int 0, .ref a22, .ref a25, .ref a28, .ref a31, .int 0, .ref a34, .ref a37, .ref a40, .ref a43, .ref a46, .ref a49, .int 0, .ref a52, .ref a55, .null]) :: ws)) from rfl]
  refine Exists.intro _ (And.intro (al_get (k := 20) nd59 rfl) (And.intro rfl ?_))
  rw [show pm_up (al A ((a58, pm_ia g 1449 (fun _ => 0)) :: (a55, pm_ia g 1449 (fun _ => 0)) :: (a52, pm_ia g 160 (fun _ => 0)) :: (a49, pm_ia g 24 (fun _ => 0)) :: (a46, pm_ia g 40 (fun _ => 0)) :: (a43, pm_ia g 40 (fun _ => 0)) :: (a40, pm_ia g 6400 (fun _ => 0)) :: (a37, pm_ia g 6400 (fun _ => 0)) :: (a34, pm_ia g 30 (fun _ => 0)) :: (a31, pm_ia g 30 (fun _ => 0)) :: (a28, pm_ia g 30 (fun _ => 0)) :: (a25, pm_ia g 30 (fun _ => 0)) :: (a22, pm_ia g 30 (fun _ => 0)) :: (a19, pm_ia g 160 (fun _ => 0)) :: (a16, pm_ia g 160 (fun _ => 0)) :: (a13, pm_ia g 160 (fun _ => 0)) :: (a10, pm_ia g 160 (fun _ => 0)) :: (a7, pm_ia g 24 (fun _ => 0)) :: (a4, pm_ia g 160 (fun _ => 0)) :: (a1, pm_ia g 160 (fun _ => 0)) :: (a, pm_ob 11 [.ref a1, .ref a4, .ref a7, .ref a10, .ref a13, .ref a16, .ref a19, .int 0, .int 0, .int 0, .int 0, .int 0, .int 0, .ref a22, .ref a25, .ref a28, .ref a31, .int 0, .ref a34, .ref a37, .ref a40, .ref a43, .ref a46, .ref a49, .int 0, .ref a52, .ref a55, .null]) :: ws)) a (pm_ob 11 (([.ref a1, .ref a4, .ref a7, .ref a10, .ref a13, .ref a16, .ref a19, .int 0, .int 0, .int 0, .int 0, .int 0, .int 0, .ref a22, .ref a25, .ref a28, .ref a31, .int 0, .ref a34, .ref a37, .ref a40, .ref a43, .ref a46, .ref a49, .int 0, .ref a52, .ref a55, .null] : List Value).set 27 (.ref a58))) = al A ((a58, pm_ia g 1449 (fun _ => 0)) :: (a55, pm_ia g 1449 (fun _ => 0)) :: (a52, pm_ia g 160 (fun _ => 0)) :: (a49, pm_ia g 24 (fun _ => 0)) :: (a46, pm_ia g 40 (fun _ => 0)) :: (a43, pm_ia g 40 (fun _ => 0)) :: (a40, pm_ia g 6400 (fun _ => 0)) :: (a37, pm_ia g 6400 (fun _ => 0)) :: (a34, pm_ia g 30 (fun _ => 0)) :: (a31, pm_ia g 30 (fun _ => 0)) :: (a28, pm_ia g 30 (fun _ => 0)) :: (a25, pm_ia g 30 (fun _ => 0)) :: (a22, pm_ia g 30 (fun _ => 0)) :: (a19, pm_ia g 160 (fun _ => 0)) :: (a16, pm_ia g 160 (fun _ => 0)) :: (a13, pm_ia g 160 (fun _ => 0)) :: (a10, pm_ia g 160 (fun _ => 0)) :: (a7, pm_ia g 24 (fun _ => 0)) :: (a4, pm_ia g 160 (fun _ => 0)) :: (a1, pm_ia g 160 (fun _ => 0)) :: (a, pm_ob 11 [.ref a1, .ref a4, .ref a7, .ref a10, .ref a13, .ref a16, .ref a19, .int 0, .int 0, .int 0, .int 0, .int 0, .int 0, .ref a22, .ref a25, .ref a28, .ref a31, .int 0, .ref a34, .ref a37, .ref a40, .ref a43, .ref a46, .ref a49, .int 0, .ref a52, .ref a55, .ref a58]) :: ws) from al_set (k := 20) nd59 rfl rfl]
  have nd60 : (List.map Prod.fst ((a58, pm_ia g 1449 (fun _ => 0)) :: (a55, pm_ia g 1449 (fun _ => 0)) :: (a52, pm_ia g 160 (fun _ => 0)) :: (a49, pm_ia g 24 (fun _ => 0)) :: (a46, pm_ia g 40 (fun _ => 0)) :: (a43, pm_ia g 40 (fun _ => 0)) :: (a40, pm_ia g 6400 (fun _ => 0)) :: (a37, pm_ia g 6400 (fun _ => 0)) :: (a34, pm_ia g 30 (fun _ => 0)) :: (a31, pm_ia g 30 (fun _ => 0)) :: (a28, pm_ia g 30 (fun _ => 0)) :: (a25, pm_ia g 30 (fun _ => 0)) :: (a22, pm_ia g 30 (fun _ => 0)) :: (a19, pm_ia g 160 (fun _ => 0)) :: (a16, pm_ia g 160 (fun _ => 0)) :: (a13, pm_ia g 160 (fun _ => 0)) :: (a10, pm_ia g 160 (fun _ => 0)) :: (a7, pm_ia g 24 (fun _ => 0)) :: (a4, pm_ia g 160 (fun _ => 0)) :: (a1, pm_ia g 160 (fun _ => 0)) :: (a, pm_ob 11 [.ref a1, .ref a4, .ref a7, .ref a10, .ref a13, .ref a16, .ref a19, .int 0, .int 0, .int 0, .int 0, .int 0, .int 0, .ref a22, .ref a25, .ref a28, .ref a31, .int 0, .ref a34, .ref a37, .ref a40, .ref a43, .ref a46, .ref a49, .int 0, .ref a52, .ref a55, .ref a58]) :: ws)).Nodup := nd59
  have k24 : (24 : Int32).toInt = 24 := rfl
  have k0 : (0 : Int32).toInt = 0 := rfl
  have lp : ∀ (n : Nat) (z : Int32) (fw : Nat → Int32), (0 ≤ z.toInt ∧ z.toInt ≤ 24) → (∀ j : Nat, (j : Int) < z.toInt → fw j = 1) → 24 - z.toInt < (n : Int) → J 177 [some (.ref a), some (.int z)] [] (al A ((a58, pm_ia g 1449 (fun _ => 0)) :: (a55, pm_ia g 1449 (fun _ => 0)) :: (a52, pm_ia g 160 (fun _ => 0)) :: (a49, pm_ia g 24 (fun _ => 0)) :: (a46, pm_ia g 40 (fun _ => 0)) :: (a43, pm_ia g 40 (fun _ => 0)) :: (a40, pm_ia g 6400 (fun _ => 0)) :: (a37, pm_ia g 6400 (fun _ => 0)) :: (a34, pm_ia g 30 (fun _ => 0)) :: (a31, pm_ia g 30 (fun _ => 0)) :: (a28, pm_ia g 30 (fun _ => 0)) :: (a25, pm_ia g 30 (fun _ => 0)) :: (a22, pm_ia g 30 (fun _ => 0)) :: (a19, pm_ia g 160 (fun _ => 0)) :: (a16, pm_ia g 160 (fun _ => 0)) :: (a13, pm_ia g 160 (fun _ => 0)) :: (a10, pm_ia g 160 (fun _ => 0)) :: (a7, pm_ia g 24 fw) :: (a4, pm_ia g 160 (fun _ => 0)) :: (a1, pm_ia g 160 (fun _ => 0)) :: (a, pm_ob 11 [.ref a1, .ref a4, .ref a7, .ref a10, .ref a13, .ref a16, .ref a19, .int 0, .int 0, .int 0, .int 0, .int 0, .int 0, .ref a22, .ref a25, .ref a28, .ref a31, .int 0, .ref a34, .ref a37, .ref a40, .ref a43, .ref a46, .ref a49, .int 0, .ref a52, .ref a55, .ref a58]) :: ws)) 20 17096 := by
    intro n
    induction n with
    | zero => intro z fw h1 h2 h3; omega
    | succ n ih =>
      intro z fw h1 h2 h3
      have ndf : (List.map Prod.fst ((a58, pm_ia g 1449 (fun _ => 0)) :: (a55, pm_ia g 1449 (fun _ => 0)) :: (a52, pm_ia g 160 (fun _ => 0)) :: (a49, pm_ia g 24 (fun _ => 0)) :: (a46, pm_ia g 40 (fun _ => 0)) :: (a43, pm_ia g 40 (fun _ => 0)) :: (a40, pm_ia g 6400 (fun _ => 0)) :: (a37, pm_ia g 6400 (fun _ => 0)) :: (a34, pm_ia g 30 (fun _ => 0)) :: (a31, pm_ia g 30 (fun _ => 0)) :: (a28, pm_ia g 30 (fun _ => 0)) :: (a25, pm_ia g 30 (fun _ => 0)) :: (a22, pm_ia g 30 (fun _ => 0)) :: (a19, pm_ia g 160 (fun _ => 0)) :: (a16, pm_ia g 160 (fun _ => 0)) :: (a13, pm_ia g 160 (fun _ => 0)) :: (a10, pm_ia g 160 (fun _ => 0)) :: (a7, pm_ia g 24 fw) :: (a4, pm_ia g 160 (fun _ => 0)) :: (a1, pm_ia g 160 (fun _ => 0)) :: (a, pm_ob 11 [.ref a1, .ref a4, .ref a7, .ref a10, .ref a13, .ref a16, .ref a19, .int 0, .int 0, .int 0, .int 0, .int 0, .int 0, .ref a22, .ref a25, .ref a28, .ref a31, .int 0, .ref a34, .ref a37, .ref a40, .ref a43, .ref a46, .ref a49, .int 0, .ref a52, .ref a55, .ref a58]) :: ws)).Nodup := nd60
      refine hC.1 1 177 _ _ rfl _ _ _ _ _ ?_
      refine And.intro (fun c9 => ?_) (fun c9 => ?_)
      · refine hC.1 2 196 _ _ rfl _ _ _ _ _ ?_
        exact ⟨rfl, rfl, rfl, a1, a4, a7, a10, a13, a16, a19, a22, a25, a28, a31, a34, a37, a40, a43, a46, a49, a52, a55, a58, fw, rfl, ndf, fun j hj => h2 j (by omega), g2.2, g5.2, g8.2, g11.2, g14.2, g17.2, g20.2, g23.2, g26.2, g29.2, g32.2, g35.2, g38.2, g41.2, g44.2, g47.2, g50.2, g53.2, g56.2, g59.2⟩
      · refine Exists.intro _ (And.intro (al_get (k := 20) ndf rfl) ?_)
        refine Exists.intro _ (Exists.intro _ (And.intro (al_get (k := 17) ndf rfl) (And.intro (by omega) ?_)))
        rw [show pm_up (al A ((a58, pm_ia g 1449 (fun _ => 0)) :: (a55, pm_ia g 1449 (fun _ => 0)) :: (a52, pm_ia g 160 (fun _ => 0)) :: (a49, pm_ia g 24 (fun _ => 0)) :: (a46, pm_ia g 40 (fun _ => 0)) :: (a43, pm_ia g 40 (fun _ => 0)) :: (a40, pm_ia g 6400 (fun _ => 0)) :: (a37, pm_ia g 6400 (fun _ => 0)) :: (a34, pm_ia g 30 (fun _ => 0)) :: (a31, pm_ia g 30 (fun _ => 0)) :: (a28, pm_ia g 30 (fun _ => 0)) :: (a25, pm_ia g 30 (fun _ => 0)) :: (a22, pm_ia g 30 (fun _ => 0)) :: (a19, pm_ia g 160 (fun _ => 0)) :: (a16, pm_ia g 160 (fun _ => 0)) :: (a13, pm_ia g 160 (fun _ => 0)) :: (a10, pm_ia g 160 (fun _ => 0)) :: (a7, pm_ia g 24 fw) :: (a4, pm_ia g 160 (fun _ => 0)) :: (a1, pm_ia g 160 (fun _ => 0)) :: (a, pm_ob 11 [.ref a1, .ref a4, .ref a7, .ref a10, .ref a13, .ref a16, .ref a19, .int 0, .int 0, .int 0, .int 0, .int 0, .int 0, .ref a22, .ref a25, .ref a28, .ref a31, .int 0, .ref a34, .ref a37, .ref a40, .ref a43, .ref a46, .ref a49, .int 0, .ref a52, .ref a55, .ref a58]) :: ws)) a7 (pm_ia g 24 (upd fw z.toInt.toNat 1)) = al A ((a58, pm_ia g 1449 (fun _ => 0)) :: (a55, pm_ia g 1449 (fun _ => 0)) :: (a52, pm_ia g 160 (fun _ => 0)) :: (a49, pm_ia g 24 (fun _ => 0)) :: (a46, pm_ia g 40 (fun _ => 0)) :: (a43, pm_ia g 40 (fun _ => 0)) :: (a40, pm_ia g 6400 (fun _ => 0)) :: (a37, pm_ia g 6400 (fun _ => 0)) :: (a34, pm_ia g 30 (fun _ => 0)) :: (a31, pm_ia g 30 (fun _ => 0)) :: (a28, pm_ia g 30 (fun _ => 0)) :: (a25, pm_ia g 30 (fun _ => 0)) :: (a22, pm_ia g 30 (fun _ => 0)) :: (a19, pm_ia g 160 (fun _ => 0)) :: (a16, pm_ia g 160 (fun _ => 0)) :: (a13, pm_ia g 160 (fun _ => 0)) :: (a10, pm_ia g 160 (fun _ => 0)) :: (a7, pm_ia g 24 (upd fw z.toInt.toNat 1)) :: (a4, pm_ia g 160 (fun _ => 0)) :: (a1, pm_ia g 160 (fun _ => 0)) :: (a, pm_ob 11 [.ref a1, .ref a4, .ref a7, .ref a10, .ref a13, .ref a16, .ref a19, .int 0, .int 0, .int 0, .int 0, .int 0, .int 0, .ref a22, .ref a25, .ref a28, .ref a31, .int 0, .ref a34, .ref a37, .ref a40, .ref a43, .ref a46, .ref a49, .int 0, .ref a52, .ref a55, .ref a58]) :: ws) from al_set (k := 17) ndf rfl rfl]
        intro m em
        have e1 : m.toInt = z.toInt + 1 := by rw [em]; exact pm_addc _ _ 1 rfl (by omega) (by omega)
        refine ih m _ (by omega) (fun j hj => ?_) (by omega)
        by_cases hjz : j = z.toInt.toNat
        · subst hjz; exact pk_us
        · rw [pk_un hjz]; exact h2 j (by omega)
  exact lp 25 0 (fun _ => 0) (by omega) (fun j hj => by omega) (by omega)
end
end
section
/-! the law's world: the class's cells over the reference's -/
theorem md_out {A0 : pm_H} {g : pm_G} {h : Nat} {q : Nat → Nat} {v : Nat → Int32} {f : Nat → Nat → Int32} {x : Nat} (hx : x ≠ h) (hq : ∀ i, i < 20 → x ≠ q i) : md A0 g h q v f x = A0 x := by
  unfold md
  rw [if_neg hx]
  cases hf : (List.range 20).find? (fun j => decide (x = q j)) with
  | none => rfl
  | some j =>
    have h3 : x = q j := by simpa using List.find?_some hf
    have h4 := List.mem_range.mp (List.mem_of_find?_eq_some hf)
    exact absurd h3 (hq j h4)
theorem cw_md {A00 : pm_H} {g : pm_G} {h : Nat} {mq : Nat → Nat} {mv : Nat → Int32} {mf : Nat → Nat → Int32} {K nn dn : Nat} {q : Nat → Nat} {w : Nat → Int32} {e : Nat → Nat → Int32} {v : Nat → Int32} {f : Nat → Nat → Int32} (D : md_D h mq) (dj : ∀ i, i < 40 + 4 * K → q i ≠ h ∧ ∀ j, j < 20 → q i ≠ mq j) : cw (md A00 g h mq mv mf) g K nn dn q w e v f = md (cw A00 g K nn dn q w e v f) g h mq mv mf := by
  refine md_char ?_ (fun i hi => ?_) (fun x hx hq => ?_)
  · exact (gw_out (fun i hi => (dj i hi).1.symm)).trans md_o
  · exact (gw_out (fun j hj => ((dj j hj).2 i hi).symm)).trans (md_a D hi)
  · unfold cw gw
    cases hf : (List.range (40 + 4 * K)).find? (fun j => decide (x = q j)) with
    | none => exact md_out hx hq
    | some j => rfl
theorem lw_dj {A00 : pm_H} {g : pm_G} {h : Nat} {mq : Nat → Nat} {mv : Nat → Int32} {mf : Nat → Nat → Int32} {K K2 : Nat} {q q2 : Nat → Nat} (D : md_D h mq) (dj : ∀ i, i < 40 + 4 * K → q i ≠ h ∧ ∀ j, j < 20 → q i ≠ mq j) (hX : cw_X (md A00 g h mq mv mf) K q K2 q2) : ∀ i, i < 40 + 4 * K2 → q2 i ≠ h ∧ ∀ j, j < 20 → q2 i ≠ mq j := by
  intro i hi
  by_cases hk : i < 40 + 4 * K
  · rw [hX.2.1 i hk]
    exact dj i hk
  · have h1 := hX.2.2 i (by omega) hi
    refine ⟨fun e1 => ?_, fun j hj e1 => ?_⟩
    · rw [e1, md_o] at h1; cases h1
    · rw [e1, md_a D hj] at h1; cases h1
noncomputable def lw_ro (b L : Nat) (xs : Nat → Int32) : Nat → Option (Nat × (Nat → Int32)) := fun a => if a = b then some (L, xs) else none
noncomputable def lw_Rt : Option Value → pm_H → Nat → Nat → Prop := fun v _ c s => c ≤ 600000 ∧ s ≤ 7302250 ∧ v = some (.int 1)
theorem lw_bnd {d' d c mc' mc s ms' ms : Nat} {rest : List Value} (h1 : Nat.blt d' d = true) (h2 : c + mc' ≤ mc) (h3 : s + ms' ≤ ms) (h4 : pm_rm rest = true) : (Nat.blt d' d && (Nat.ble (c + mc') mc && (Nat.ble (s + ms') ms && pm_rm rest))) = true := by
  rw [h1, h4, Nat.ble_eq_true_of_le h2, Nat.ble_eq_true_of_le h3]
  rfl
end
section
/-! the law's arguments and room, without a search -/
theorem lx_ad {i m y : Int32} {k : Int} {L : Nat} (hi : 0 ≤ i.toInt ∧ i.toInt + 6 ≤ (L : Int)) (hL : L ≤ 3072) (hk : y.toInt = k) (h0 : 0 ≤ k) (h5 : k ≤ 5) (em : m = i + y) : m.toInt = i.toInt + k := by rw [em]; exact pm_addc _ _ k hk (by omega) (by omega)
theorem lx_ad1 {i m : Int32} {L : Nat} (hi : 0 ≤ i.toInt ∧ i.toInt + 6 ≤ (L : Int)) (hL : L ≤ 3072) (em : m = i + 1) : m.toInt = i.toInt + 1 := lx_ad hi hL rfl (by decide) (by decide) em
theorem lx_ad2 {i m : Int32} {L : Nat} (hi : 0 ≤ i.toInt ∧ i.toInt + 6 ≤ (L : Int)) (hL : L ≤ 3072) (em : m = i + 2) : m.toInt = i.toInt + 2 := lx_ad hi hL rfl (by decide) (by decide) em
theorem lx_ad3 {i m : Int32} {L : Nat} (hi : 0 ≤ i.toInt ∧ i.toInt + 6 ≤ (L : Int)) (hL : L ≤ 3072) (em : m = i + 3) : m.toInt = i.toInt + 3 := lx_ad hi hL rfl (by decide) (by decide) em
theorem lx_ad4 {i m : Int32} {L : Nat} (hi : 0 ≤ i.toInt ∧ i.toInt + 6 ≤ (L : Int)) (hL : L ≤ 3072) (em : m = i + 4) : m.toInt = i.toInt + 4 := lx_ad hi hL rfl (by decide) (by decide) em
theorem lx_ad5 {i m : Int32} {L : Nat} (hi : 0 ≤ i.toInt ∧ i.toInt + 6 ≤ (L : Int)) (hL : L ≤ 3072) (em : m = i + 5) : m.toInt = i.toInt + 5 := lx_ad hi hL rfl (by decide) (by decide) em
theorem lx_bn1 {i m : Int32} {L : Nat} (hi : 0 ≤ i.toInt ∧ i.toInt + 6 ≤ (L : Int)) (e : m.toInt = i.toInt + 1) : 0 ≤ m.toInt ∧ m.toInt < (L : Int) := by omega
theorem lx_bn2 {i m : Int32} {L : Nat} (hi : 0 ≤ i.toInt ∧ i.toInt + 6 ≤ (L : Int)) (e : m.toInt = i.toInt + 2) : 0 ≤ m.toInt ∧ m.toInt < (L : Int) := by omega
theorem lx_bn3 {i m : Int32} {L : Nat} (hi : 0 ≤ i.toInt ∧ i.toInt + 6 ≤ (L : Int)) (e : m.toInt = i.toInt + 3) : 0 ≤ m.toInt ∧ m.toInt < (L : Int) := by omega
theorem lx_bn4 {i m : Int32} {L : Nat} (hi : 0 ≤ i.toInt ∧ i.toInt + 6 ≤ (L : Int)) (e : m.toInt = i.toInt + 4) : 0 ≤ m.toInt ∧ m.toInt < (L : Int) := by omega
theorem lx_bn5 {i m : Int32} {L : Nat} (hi : 0 ≤ i.toInt ∧ i.toInt + 6 ≤ (L : Int)) (e : m.toInt = i.toInt + 5) : 0 ≤ m.toInt ∧ m.toInt < (L : Int) := by omega
theorem lx_c1 {c k m N : Nat} (hc : c + k ≤ N) (h : m ≤ k) : c + m ≤ N := by omega
theorem lx_c2 {c k m n N : Nat} (hc : c + k ≤ N) (h : m + n ≤ k) : c + m + n ≤ N := by omega
end
section
/-! a row as a list of (colour, name) -/
noncomputable abbrev pl_P : Type := Int32 × Int32
noncomputable def rp (n : Int32) (c m : Nat → Int32) (L : List pl_P) : Prop := n.toInt = (L.length : Int) ∧ ∀ (j : Nat) (h : j < L.length), c j = (L[j]).1 ∧ m j = (L[j]).2
theorem rp_0 {c m : Nat → Int32} {n : Int32} (h : n.toInt = 0) : rp n c m [] := ⟨by rw [h]; rfl, fun j h => absurd h (Nat.not_lt_zero _)⟩
theorem rp_app {n n2 : Int32} {c m : Nat → Int32} {L : List pl_P} (h : rp n c m L) (h2 : n2.toInt = n.toInt + 1) (a b : Int32) : rp n2 (upd c n.toInt.toNat a) (upd m n.toInt.toNat b) (L ++ [(a, b)]) := by
  obtain ⟨h0, h1⟩ := h
  have hn : n.toInt.toNat = L.length := by omega
  refine ⟨by rw [h2, h0, List.length_append]; rfl, fun j hj => ?_⟩
  rw [hn]
  by_cases e : j = L.length
  · subst e
    rw [pk_us, pk_us, List.getElem_append_right (Nat.le_refl _)]
    simp
  · have hl : j < L.length := by
      rw [List.length_append] at hj
      have : ([(a, b)] : List pl_P).length = 1 := rfl
      omega
    rw [pk_un e, pk_un e, List.getElem_append_left hl]
    exact h1 j hl
noncomputable def sl (L : List pl_P) (a b : Nat) : List pl_P := (L.drop a).take (b - a)
theorem sl_n (L : List pl_P) {a b : Nat} (h : b ≤ a) : sl L a b = [] := by
  unfold sl
  rw [show b - a = 0 by omega, List.take_zero]
theorem sl_s {L : List pl_P} {a b : Nat} (h : a ≤ b) (hb : b < L.length) : sl L a (b + 1) = sl L a b ++ [L[b]] := by
  unfold sl
  rw [show b + 1 - a = (b - a) + 1 by omega, List.take_succ_eq_append_getElem (by rw [List.length_drop]; omega)]
  congr 2
  rw [List.getElem_drop]
  congr 1
  omega
theorem sl_len {L : List pl_P} {a b : Nat} (h : b ≤ L.length) : (sl L a b).length = b - a := by
  unfold sl
  rw [List.length_take, List.length_drop]
  omega
theorem rp_at {n : Int32} {c m : Nat → Int32} {L : List pl_P} (h : rp n c m L) {j : Nat} (hj : j < L.length) : L[j] = (c j, m j) := Prod.ext (h.2 j hj).1.symm (h.2 j hj).2.symm
theorem rp_n {n n2 : Int32} {c m : Nat → Int32} {L : List pl_P} (h : rp n c m L) (h2 : n2.toInt = n.toInt) : rp n2 c m L := ⟨h2.trans h.1, h.2⟩
theorem rp_cp {n n2 : Int32} {c m c2 m2 : Nat → Int32} {L : List pl_P} (h : rp n c m L) (h2 : n2.toInt = n.toInt) (he : ∀ j : Nat, (j : Int) < n.toInt → c2 j = c j ∧ m2 j = m j) : rp n2 c2 m2 L := ⟨h2.trans h.1, fun j hj => by
  have e := he j (by have := h.1; omega)
  rw [e.1, e.2]
  exact h.2 j hj⟩
theorem rp_fr {n n2 : Int32} {c m c2 m2 : Nat → Int32} {L : List pl_P} (h : rp n c m L) (h2 : n2.toInt = n.toInt) (hc : c2 = c) (hm : m2 = m) : rp n2 c2 m2 L := by
  subst hc; subst hm
  exact rp_n h h2
noncomputable def si (L : List pl_P) (a b : Int) : List pl_P := sl L a.toNat b.toNat
theorem si_len {L : List pl_P} {a b : Int} (h0 : 0 ≤ a) (h1 : a ≤ b) (h : b ≤ (L.length : Int)) : ((si L a b).length : Int) = b - a := by
  unfold si
  rw [sl_len (by omega)]
  omega
theorem si_n {L : List pl_P} {a b : Int} (h : b ≤ a) : si L a b = [] := sl_n L (by omega)
theorem si_s {n : Int32} {c m : Nat → Int32} {L : List pl_P} (h : rp n c m L) {a z : Int} (h0 : 0 ≤ a) (ha : a ≤ z) (hz : z < (L.length : Int)) : si L a (z + 1) = si L a z ++ [(c z.toNat, m z.toNat)] := by
  unfold si
  rw [show (z + 1).toNat = z.toNat + 1 by omega, sl_s (by omega) (by omega), rp_at h (by omega)]
noncomputable def edn : Option (List pl_P) → Int
  | some _ => 1
  | none => 0
theorem pm_remc (x y : Int32) (k : Int) (hk : y.toInt = k) (hx : 0 ≤ x.toInt) (hy : 0 < k) : 0 ≤ (x - x / y * y).toInt ∧ (x - x / y * y).toInt < k ∧ (x - x / y * y).toInt = x.toInt % k := by
  subst hk
  exact pm_rem x y hx hy
theorem si_all (L : List pl_P) : si L 0 L.length = L := by
  unfold si sl
  simp
end
section
/-! the edits, as lists -/
theorem si_c {n : Int32} {c m : Nat → Int32} {L : List pl_P} (h : rp n c m L) {a b : Int} (h0 : 0 ≤ a) (ha : a < b) (hb : b ≤ (L.length : Int)) : si L a b = (c a.toNat, m a.toNat) :: si L (a + 1) b := by
  unfold si sl
  rw [List.drop_eq_getElem_cons (i := a.toNat) (by omega), show b.toNat - a.toNat = (b.toNat - (a + 1).toNat) + 1 by omega, List.take_succ_cons, rp_at h (by omega), show (a + 1).toNat = a.toNat + 1 by omega]
noncomputable def ed_insert (L : List pl_P) (g : Int32) (p c : Int32) : Option (List pl_P) := if (0 ≤ p.toInt ∧ p.toInt ≤ (L.length : Int)) ∧ (0 ≤ c.toInt ∧ c.toInt ≤ 23) ∧ (L.length : Int) + 1 ≤ 160 ∧ g.toInt + 1 ≤ 10000 then some (si L 0 p.toInt ++ [(c, g)] ++ si L p.toInt L.length) else none
noncomputable def ed_cut (L : List pl_P) (l r : Int32) : Option (List pl_P) := if 0 ≤ l.toInt ∧ l.toInt ≤ r.toInt ∧ r.toInt < (L.length : Int) then some (si L 0 l.toInt ++ si L (r.toInt + 1) L.length) else none
noncomputable def ed_shift (L : List pl_P) (l r n : Int32) : Option (List pl_P) := if (0 ≤ l.toInt ∧ l.toInt ≤ r.toInt ∧ r.toInt < (L.length : Int)) ∧ 0 ≤ n.toInt ∧ n.toInt ≤ r.toInt - l.toInt + 1 then some (si L 0 l.toInt ++ si L (l.toInt + n.toInt) (r.toInt + 1) ++ si L l.toInt (l.toInt + n.toInt) ++ si L (r.toInt + 1) L.length) else none
noncomputable def sw_l (L : List pl_P) (a b c d : Int) : List pl_P := si L 0 a ++ si L c (d + 1) ++ si L (b + 1) c ++ si L a (b + 1) ++ si L (d + 1) L.length
noncomputable def ed_swap (L : List pl_P) (l r f t : Int32) : Option (List pl_P) := if (0 ≤ l.toInt ∧ l.toInt ≤ r.toInt ∧ r.toInt < (L.length : Int)) ∧ (0 ≤ f.toInt ∧ f.toInt ≤ t.toInt ∧ t.toInt < (L.length : Int)) ∧ (r.toInt < f.toInt ∨ t.toInt < l.toInt) then some (if r.toInt < f.toInt then sw_l L l.toInt r.toInt f.toInt t.toInt else sw_l L f.toInt t.toInt l.toInt r.toInt) else none
noncomputable def ed_turn (L : List pl_P) (l r : Int32) : Option (List pl_P) := if 0 ≤ l.toInt ∧ l.toInt ≤ r.toInt ∧ r.toInt < (L.length : Int) then some (si L 0 l.toInt ++ (si L l.toInt (r.toInt + 1)).reverse ++ si L (r.toInt + 1) L.length) else none
noncomputable def nw_l (g : Int32) : List Int32 → List pl_P
  | [] => []
  | c :: r => (c, g) :: nw_l (g + 1) r
theorem nw_app {c : Int32} : ∀ {cs : List Int32} {g g2 : Int32}, g2.toInt = g.toInt + (cs.length : Int) → g.toInt + (cs.length : Int) < 2147483647 → nw_l g (cs ++ [c]) = nw_l g cs ++ [(c, g2)]
  | [], g, g2, h, _ => by
    have e : g2 = g := pm_eqI (by rw [h]; simp)
    rw [e]; rfl
  | x :: r, g, g2, h, hb => by
    have h1 : ((x :: r).length : Int) = (r.length : Int) + 1 := by simp
    have hr := pm_rng g
    have h2 : (g + 1).toInt = g.toInt + 1 := pm_addc g 1 1 rfl (by omega) (by omega)
    show (x, g) :: nw_l (g + 1) (r ++ [c]) = (x, g) :: (nw_l (g + 1) r ++ [(c, g2)])
    rw [nw_app (cs := r) (g := g + 1) (g2 := g2) (by omega) (by omega)]
theorem nw_len (g : Int32) (cs : List Int32) : (nw_l g cs).length = cs.length := by
  induction cs generalizing g with
  | nil => rfl
  | cons x r ih => show (nw_l (g + 1) r).length + 1 = r.length + 1; rw [ih]
noncomputable def ed_copy (L : List pl_P) (g : Int32) (l r p : Int32) : Option (List pl_P) := if (0 ≤ l.toInt ∧ l.toInt ≤ r.toInt ∧ r.toInt < (L.length : Int)) ∧ (0 ≤ p.toInt ∧ p.toInt ≤ (L.length : Int)) ∧ (L.length : Int) + (r.toInt - l.toInt + 1) ≤ 160 ∧ g.toInt + (r.toInt - l.toInt + 1) ≤ 10000 then some (si L 0 p.toInt ++ nw_l g ((si L l.toInt (r.toInt + 1)).map Prod.fst) ++ si L p.toInt L.length) else none
noncomputable def ds (x : Int) : Nat → Int
  | 0 => x
  | i + 1 => (137 * ds x i + 71) % 10007
noncomputable def dr_l (x k : Int) (n : Nat) : List Int32 := (List.range n).map (fun j => Int32.ofInt (ds x (j + 1) % k))
theorem dr_s (x k : Int) (n : Nat) : dr_l x k (n + 1) = dr_l x k n ++ [Int32.ofInt (ds x (n + 1) % k)] := by
  unfold dr_l
  rw [List.range_succ, List.map_append]
  rfl
theorem dr_len (x k : Int) (n : Nat) : (dr_l x k n).length = n := by unfold dr_l; simp
noncomputable def ed_draw (L : List pl_P) (g : Int32) (s n k : Int32) : Option (List pl_P) := if (0 ≤ s.toInt ∧ s.toInt ≤ 9999) ∧ (1 ≤ n.toInt ∧ n.toInt ≤ 160) ∧ (1 ≤ k.toInt ∧ k.toInt ≤ 24) ∧ (L.length : Int) + n.toInt ≤ 160 ∧ g.toInt + n.toInt ≤ 10000 then some (L ++ nw_l g (dr_l s.toInt k.toInt n.toInt.toNat)) else none
noncomputable def st_l (M : List pl_P) : Nat → List pl_P
  | 0 => []
  | c + 1 => st_l M c ++ M.filter (fun p => decide (p.1.toInt = (c : Int)))
noncomputable def ed_sort (L : List pl_P) (l r : Int32) : Option (List pl_P) := if 0 ≤ l.toInt ∧ l.toInt ≤ r.toInt ∧ r.toInt < (L.length : Int) then some (si L 0 l.toInt ++ st_l (si L l.toInt (r.toInt + 1)) 24 ++ si L (r.toInt + 1) L.length) else none
theorem fl_y {M : List pl_P} {c : Int} {a b : Int32} (h : a.toInt = c) : (M ++ [(a, b)]).filter (fun p => decide (p.1.toInt = c)) = M.filter (fun p => decide (p.1.toInt = c)) ++ [(a, b)] := by
  rw [List.filter_append, List.filter_cons, if_pos (by simpa using h)]
  rfl
theorem fl_n {M : List pl_P} {c : Int} {a b : Int32} (h : ¬ a.toInt = c) : (M ++ [(a, b)]).filter (fun p => decide (p.1.toInt = c)) = M.filter (fun p => decide (p.1.toInt = c)) := by
  rw [List.filter_append, List.filter_cons, if_neg (by simpa using h)]
  simp
noncomputable def rc_l (L : List pl_P) (l r : Int) (h : Int32 → Int32) : List pl_P := si L 0 l ++ (si L l (r + 1)).map (fun p => (h p.1, p.2)) ++ si L (r + 1) L.length
noncomputable def ed_paint (L : List pl_P) (l r c : Int32) : Option (List pl_P) := if (0 ≤ l.toInt ∧ l.toInt ≤ r.toInt ∧ r.toInt < (L.length : Int)) ∧ 0 ≤ c.toInt ∧ c.toInt ≤ 23 then some (rc_l L l.toInt r.toInt (fun _ => c)) else none
noncomputable def ed_merge (L : List pl_P) (a b : Int32) : Option (List pl_P) := if (0 ≤ a.toInt ∧ a.toInt ≤ 23) ∧ (0 ≤ b.toInt ∧ b.toInt ≤ 23) ∧ a.toInt ≠ b.toInt then some (L.map (fun p => (if p.1 = a then b else p.1, p.2))) else none
noncomputable def ed_exch (L : List pl_P) (a b : Int32) : Option (List pl_P) := if (0 ≤ a.toInt ∧ a.toInt ≤ 23) ∧ (0 ≤ b.toInt ∧ b.toInt ≤ 23) ∧ a.toInt ≠ b.toInt then some (L.map (fun p => (if p.1 = a then b else if p.1 = b then a else p.1, p.2))) else none
noncomputable def rc_p (L : List pl_P) (l r : Int) (h : Int32 → Int32) (z : Int) : List pl_P := si L 0 (if z ≤ l then z else l) ++ (si L l (if z ≤ r + 1 then z else r + 1)).map (fun p => (h p.1, p.2)) ++ si L (r + 1) z
theorem rc_0 {L : List pl_P} {l r : Int} {h : Int32 → Int32} (h1 : 0 ≤ l) (h2 : l ≤ r + 1) : rc_p L l r h (0 : Int32).toInt = [] := by
  have k0 : (0 : Int32).toInt = 0 := rfl
  unfold rc_p
  rw [k0, if_pos h1, if_pos (by omega), si_n (L := L) (a := 0) (b := 0) (by omega), si_n (L := L) (a := l) (b := 0) h1, si_n (L := L) (a := r + 1) (b := 0) (by omega)]
  rfl
theorem rc_e {L : List pl_P} {l r : Int} {h : Int32 → Int32} (h1 : 0 ≤ l) (h2 : l ≤ r + 1) (h3 : r < (L.length : Int)) : rc_p L l r h L.length = rc_l L l r h := by
  unfold rc_p rc_l
  by_cases e1 : (L.length : Int) ≤ l
  · have e2 : (L.length : Int) = l := by omega
    rw [if_pos e1, e2]
    by_cases e3 : l ≤ r + 1
    · rw [if_pos e3]
      have e4 : l = r + 1 := by omega
      rw [← e4]
    · exact absurd h2 e3
  · rw [if_neg e1]
    by_cases e3 : (L.length : Int) ≤ r + 1
    · rw [if_pos e3, show (L.length : Int) = r + 1 by omega]
    · rw [if_neg e3]
theorem rc_s {n : Int32} {c m : Nat → Int32} {L : List pl_P} (hL : rp n c m L) {l r z : Int} {h : Int32 → Int32} (h1 : 0 ≤ l) (h2 : l ≤ r + 1) (h3 : r < (L.length : Int)) (hz : 0 ≤ z) (hz2 : z < (L.length : Int)) : rc_p L l r h (z + 1) = rc_p L l r h z ++ [(if l ≤ z ∧ z ≤ r then h (c z.toNat) else c z.toNat, m z.toNat)] := by
  unfold rc_p
  by_cases a1 : z < l
  · rw [if_pos (show z + 1 ≤ l by omega), if_pos (show z ≤ l by omega), if_pos (show z + 1 ≤ r + 1 by omega), if_pos (show z ≤ r + 1 by omega), if_neg (by omega), si_s hL (a := 0) (z := z) (by omega) (by omega) hz2, si_n (L := L) (a := l) (b := z + 1) (by omega), si_n (L := L) (a := l) (b := z) (by omega), si_n (L := L) (a := r + 1) (b := z + 1) (by omega), si_n (L := L) (a := r + 1) (b := z) (by omega)]
    simp
  · by_cases a2 : z ≤ r
    · have e1 : (if z ≤ l then z else l) = l := by split <;> omega
      rw [e1, if_neg (show ¬ z + 1 ≤ l by omega), if_pos (show z + 1 ≤ r + 1 by omega), if_pos (show z ≤ r + 1 by omega), if_pos (show l ≤ z ∧ z ≤ r from ⟨by omega, a2⟩), si_s hL (a := l) (z := z) h1 (by omega) hz2, si_n (L := L) (a := r + 1) (b := z + 1) (by omega), si_n (L := L) (a := r + 1) (b := z) (by omega)]
      simp
    · rw [if_neg (show ¬ z + 1 ≤ l by omega), if_neg (show ¬ z + 1 ≤ r + 1 by omega), if_neg (show ¬ (l ≤ z ∧ z ≤ r) by omega), si_s hL (a := r + 1) (z := z) (by omega) (by omega) hz2]
      have e1 : (if z ≤ l then z else l) = l := by split <;> omega
      have e2 : (if z ≤ r + 1 then z else r + 1) = r + 1 := by split <;> omega
      rw [e1, e2, List.append_assoc, List.append_assoc, List.append_assoc]
theorem rc_all (L : List pl_P) (h : Int32 → Int32) : rc_l L 0 (L.length - 1) h = L.map (fun p => (h p.1, p.2)) := by
  unfold rc_l
  rw [show (L.length : Int) - 1 + 1 = L.length by omega, si_all, si_n (L := L) (a := 0) (b := 0) (by omega), si_n (L := L) (a := L.length) (b := L.length) (by omega)]
  simp
end
section
noncomputable def cn (c : Nat → Int32) (x : Int32) : Nat → Nat
  | 0 => 0
  | k + 1 => cn c x k + if c k = x then 1 else 0
theorem cn_le (c : Nat → Int32) (x : Int32) : ∀ n, cn c x n ≤ n
  | 0 => Nat.le_refl _
  | k + 1 => by
    have := cn_le c x k
    unfold cn
    split <;> omega
theorem cn_y {c : Nat → Int32} {x : Int32} {k : Nat} (h : c k = x) : cn c x (k + 1) = cn c x k + 1 := by rw [cn, if_pos h]
theorem cn_n {c : Nat → Int32} {x : Int32} {k : Nat} (h : ¬ c k = x) : cn c x (k + 1) = cn c x k := by rw [cn, if_neg h, Nat.add_zero]
noncomputable def NTH (c : Nat → Int32) (n : Int) (x : Int32) (k r : Int) : Prop := (r = -1 ∧ ∀ i : Nat, (i : Int) < n → ¬ (c i = x ∧ (cn c x i : Int) = k)) ∨ (0 ≤ r ∧ r < n ∧ c r.toNat = x ∧ (cn c x r.toNat : Int) = k)
noncomputable def FST (c : Nat → Int32) (n : Int) (x : Int32) (r : Int) : Prop := (r = -1 ∧ ∀ i : Nat, (i : Int) < n → ¬ c i = x) ∨ (0 ≤ r ∧ r < n ∧ c r.toNat = x ∧ ∀ i : Nat, (i : Int) < r → ¬ c i = x)
end
section
section
variable {l : Launch} {g : pm_G} {A0 : pm_H} {h : Nat} {q : Nat → Nat}
set_option maxRecDepth 100000 in
set_option maxHeartbeats 2000000 in
theorem F_X11_nth (D : md_D h q) (v : Nat → Int32) (f : Nat → Nat → Int32) (hv : md_V v) (hf : md_F f) (x1 : Int32) (x2 : Int32)  : pm_Mt l g 204 0 0 0 [.ref h, .int x1, .int x2] (md A0 g h q v f) (md_Qp (md A0 g h q v f) (fun r => NTH (f 0) (v 0).toInt x1 x2.toInt r.toInt)) := by
  refine mt_X11_nth rfl (fun J hC => ?_)
  have hv9 := hv
  unfold md_V at hv9
  have rg_x1 := pm_rng x1
  have rg_x2 := pm_rng x2
  refine hC.1 0 0 _ _ rfl _ _ _ _ _ ?_
  have k0 : (0 : Int32).toInt = 0 := rfl
  have lp1 : ∀ (n : Nat) (z3_5 : Int32) (z4_5 : Int32), (0 ≤ z4_5.toInt ∧ z4_5.toInt ≤ (v 0).toInt) → ((0 ≤ x2.toInt → 0 ≤ z3_5.toInt) ∧ z3_5.toInt = x2.toInt - (cn (f 0) x1 z4_5.toInt.toNat : Int)) → (∀ i9 : Nat, (i9 : Int) < z4_5.toInt → ¬ (f 0 i9 = x1 ∧ (cn (f 0) x1 i9 : Int) = x2.toInt)) → 200 - z4_5.toInt < (n : Int) → J 5 [some (.ref h), some (.int x1), some (.int x2), some (.int z3_5), some (.int z4_5)] [] (md A0 g h q v f) 0 0 := by
    intro n
    induction n with
    | zero =>
      intro z3_5 z4_5 j0_5 j1_5 j2_5 j3_5
      omega
    | succ n ih2 =>
      intro z3_5 z4_5 j0_5 j1_5 j2_5 j3_5
      have cl9 := cn_le (f 0) x1 z4_5.toInt.toNat
      refine hC.1 1 5 _ _ rfl _ _ _ _ _ ?_
      refine Exists.intro _ (And.intro md_o ?_)
      refine And.intro (fun c3 => ?_) (fun c3 => ?_)
      · skip
        refine hC.1 5 48 _ _ rfl _ _ _ _ _ ?_
        have km1 : (-1 : Int32).toInt = -1 := rfl
        exact ⟨rfl, fun e9 => absurd e9 (by decide), rfl, (-1 : Int32), rfl, rfl, by first | (exact Or.inr ⟨by omega, by omega, by assumption, by omega⟩) | (exact Or.inl ⟨rfl, fun i9 h9 => j2_5 i9 (by omega)⟩) | (exact Or.inl ⟨rfl, fun i9 h9 h8 => (by omega)⟩)⟩
      · skip
        refine And.intro (fun c4 => ?_) (fun c4 => ?_)
        · skip
          refine hC.1 5 48 _ _ rfl _ _ _ _ _ ?_
          have km1 : (-1 : Int32).toInt = -1 := rfl
          exact ⟨rfl, fun e9 => absurd e9 (by decide), rfl, (-1 : Int32), rfl, rfl, by first | (exact Or.inr ⟨by omega, by omega, by assumption, by omega⟩) | (exact Or.inl ⟨rfl, fun i9 h9 => j2_5 i9 (by omega)⟩) | (exact Or.inl ⟨rfl, fun i9 h9 h8 => (by omega)⟩)⟩
        · skip
          refine Exists.intro _ (And.intro md_o ?_)
          refine Exists.intro _ (Exists.intro _ (And.intro (Or.inl (md_a_colours D)) (And.intro (by omega) ?_)))
          have w5 : (0 : Int) ≤ (f 0 (z4_5).toInt.toNat).toInt ∧ (f 0 (z4_5).toInt.toNat).toInt ≤ (23 : Int) := hf 0 _
          refine And.intro (fun c6 => ?_) (fun c6 => ?_)
          · skip
            have dc6 : ((f 0 (z4_5).toInt.toNat)).toInt = (x1 : Int32).toInt := congrArg Int32.toInt c6
            refine hC.1 2 32 _ _ rfl _ _ _ _ _ ?_
            refine And.intro (fun c7 => ?_) (fun c7 => ?_)
            · skip
              have dc7 := pm_neI c7
              refine hC.1 3 39 _ _ rfl _ _ _ _ _ ?_
              have km1 : (-1 : Int32).toInt = -1 := rfl
              intro m8 em_39
              try have e8 : m8.toInt = (z3_5).toInt + (-1) := by rw [em_39]; exact pm_addc _ _ (-1) rfl (by omega) (by omega)
              refine hC.1 4 42 _ _ rfl _ _ _ _ _ ?_
              have k1 : (1 : Int32).toInt = 1 := rfl
              intro m9 em_42
              try have e9 : m9.toInt = (z4_5).toInt + (1) := by rw [em_42]; exact pm_addc _ _ (1) rfl (by omega) (by omega)
              exact ih2 m8 m9 (by omega) (by first | (rw [show m9.toInt.toNat = z4_5.toInt.toNat + 1 by omega, cn_n (by assumption)]; omega) | (rw [show m9.toInt.toNat = z4_5.toInt.toNat + 1 by omega, cn_y (by assumption)]; omega)) (by intro i9 h9; by_cases h8 : i9 = z4_5.toInt.toNat; (subst h8; intro h7; first | exact absurd h7.1 (by assumption) | omega); (exact j2_5 i9 (by omega))) (by omega)
            · skip
              have dc7 : (z3_5).toInt = (0 : Int32).toInt := congrArg Int32.toInt c7
              exact ⟨rfl, fun e9 => absurd e9 (by decide), rfl, z4_5, rfl, rfl, by first | (exact Or.inr ⟨by omega, by omega, by assumption, by omega⟩) | (exact Or.inl ⟨rfl, fun i9 h9 => j2_5 i9 (by omega)⟩) | (exact Or.inl ⟨rfl, fun i9 h9 h8 => (by omega)⟩)⟩
          · skip
            have dc6 := pm_neI c6
            refine hC.1 4 42 _ _ rfl _ _ _ _ _ ?_
            have k1 : (1 : Int32).toInt = 1 := rfl
            intro m10 em_42
            try have e10 : m10.toInt = (z4_5).toInt + (1) := by rw [em_42]; exact pm_addc _ _ (1) rfl (by omega) (by omega)
            exact ih2 z3_5 m10 (by omega) (by first | (rw [show m10.toInt.toNat = z4_5.toInt.toNat + 1 by omega, cn_n (by assumption)]; omega) | (rw [show m10.toInt.toNat = z4_5.toInt.toNat + 1 by omega, cn_y (by assumption)]; omega)) (by intro i9 h9; by_cases h8 : i9 = z4_5.toInt.toNat; (subst h8; intro h7; first | exact absurd h7.1 (by assumption) | omega); (exact j2_5 i9 (by omega))) (by omega)
  exact lp1 (200 - (0 : Int32).toInt).toNat.succ x2 (0 : Int32) (by omega) (by exact ⟨fun h => h, by show x2.toInt = x2.toInt - ((0 : Nat) : Int); omega⟩) (by intro i9 h9; omega) (by omega)

set_option maxRecDepth 100000 in
set_option maxHeartbeats 2000000 in
theorem F_X11_placeOf (D : md_D h q) (v : Nat → Int32) (f : Nat → Nat → Int32) (hv : md_V v) (hf : md_F f) (x1 : Int32)  : pm_Mt l g 198 0 0 0 [.ref h, .int x1] (md A0 g h q v f) (md_Qp (md A0 g h q v f) (fun r => (-1 ≤ r.toInt ∧ r.toInt < (v 0).toInt) ∧ FST (f 1) (v 0).toInt x1 r.toInt)) := by
  refine mt_X11_placeOf rfl (fun J hC => ?_)
  have hv9 := hv
  unfold md_V at hv9
  have rg_x1 := pm_rng x1
  refine hC.1 0 0 _ _ rfl _ _ _ _ _ ?_
  have k0 : (0 : Int32).toInt = 0 := rfl
  have lp1 : ∀ (n : Nat) (z2_2 : Int32), (0 ≤ z2_2.toInt ∧ z2_2.toInt ≤ (v 0).toInt) → (∀ i9 : Nat, (i9 : Int) < z2_2.toInt → ¬ f 1 i9 = x1) → 200 - z2_2.toInt < (n : Int) → J 2 [some (.ref h), some (.int x1), some (.int z2_2)] [] (md A0 g h q v f) 0 0 := by
    intro n
    induction n with
    | zero =>
      intro z2_2 j0_2 j1_2 j2_2
      omega
    | succ n ih2 =>
      intro z2_2 j0_2 j1_2 j2_2
      refine hC.1 1 2 _ _ rfl _ _ _ _ _ ?_
      refine Exists.intro _ (And.intro md_o ?_)
      refine And.intro (fun c3 => ?_) (fun c3 => ?_)
      · skip
        refine hC.1 3 28 _ _ rfl _ _ _ _ _ ?_
        have km1 : (-1 : Int32).toInt = -1 := rfl
        exact ⟨rfl, fun e9 => absurd e9 (by decide), rfl, (-1 : Int32), rfl, rfl, by first | (exact ⟨by omega, Or.inr ⟨by omega, by omega, by assumption, fun i9 h9 => j1_2 i9 (by omega)⟩⟩) | (exact ⟨by omega, Or.inl ⟨rfl, fun i9 h9 => j1_2 i9 (by omega)⟩⟩)⟩
      · skip
        refine Exists.intro _ (And.intro md_o ?_)
        refine Exists.intro _ (Exists.intro _ (And.intro (Or.inl (md_a_names D)) (And.intro (by omega) ?_)))
        refine And.intro (fun c4 => ?_) (fun c4 => ?_)
        · skip
          have dc4 := pm_neI c4
          refine hC.1 2 22 _ _ rfl _ _ _ _ _ ?_
          have k1 : (1 : Int32).toInt = 1 := rfl
          intro m5 em_22
          try have e5 : m5.toInt = (z2_2).toInt + (1) := by rw [em_22]; exact pm_addc _ _ (1) rfl (by omega) (by omega)
          exact ih2 m5 (by omega) (by intro i9 h9; by_cases h8 : i9 = z2_2.toInt.toNat; (subst h8; assumption); (exact j1_2 i9 (by omega))) (by omega)
        · skip
          have dc4 : ((f 1 (z2_2).toInt.toNat)).toInt = (x1 : Int32).toInt := congrArg Int32.toInt c4
          exact ⟨rfl, fun e9 => absurd e9 (by decide), rfl, z2_2, rfl, rfl, by first | (exact ⟨by omega, Or.inr ⟨by omega, by omega, by assumption, fun i9 h9 => j1_2 i9 (by omega)⟩⟩) | (exact ⟨by omega, Or.inl ⟨rfl, fun i9 h9 => j1_2 i9 (by omega)⟩⟩)⟩
  exact lp1 (200 - (0 : Int32).toInt).toNat.succ (0 : Int32) (by omega) (by intro i9 h9; omega) (by omega)

end
end
section
theorem si_app {L : List pl_P} {a m b : Int} (h0 : 0 ≤ a) (h1 : a ≤ m) (h2 : m ≤ b) : si L a b = si L a m ++ si L m b := by
  unfold si sl
  rw [show b.toNat - a.toNat = (m.toNat - a.toNat) + (b.toNat - m.toNat) by omega, List.take_add, List.drop_drop, show a.toNat + (m.toNat - a.toNat) = m.toNat by omega]
theorem fl_len {L : List pl_P} {a z b c : Int} (h0 : 0 ≤ a) (h1 : a ≤ z) (h2 : z ≤ b) (_ : b ≤ (L.length : Int)) : (((si L a z).filter (fun p => decide (p.1.toInt = c))).length : Int) ≤ (((si L a b).filter (fun p => decide (p.1.toInt = c))).length : Int) := by
  rw [si_app (m := z) h0 h1 h2, List.filter_append, List.length_append]
  omega
theorem st_ct (M : List pl_P) (c : Nat) : (M.filter (fun p => decide (0 ≤ p.1.toInt ∧ p.1.toInt < (c : Int)))).length + (M.filter (fun p => decide (p.1.toInt = (c : Int)))).length = (M.filter (fun p => decide (0 ≤ p.1.toInt ∧ p.1.toInt < ((c + 1 : Nat) : Int)))).length := by
  induction M with
  | nil => rfl
  | cons x r ih =>
    rw [List.filter_cons, List.filter_cons, List.filter_cons]
    by_cases h1 : 0 ≤ x.1.toInt ∧ x.1.toInt < (c : Int)
    · rw [if_pos (by simpa using h1), if_neg (by simp; omega), if_pos (by simp; omega), List.length_cons, List.length_cons]
      omega
    · by_cases h2 : x.1.toInt = (c : Int)
      · rw [if_neg (by simpa using h1), if_pos (by simpa using h2), if_pos (by simp; omega), List.length_cons, List.length_cons]
        omega
      · rw [if_neg (by simpa using h1), if_neg (by simpa using h2), if_neg (by simp; omega)]
        exact ih
theorem st_eq (M : List pl_P) : ∀ c : Nat, (st_l M c).length = (M.filter (fun p => decide (0 ≤ p.1.toInt ∧ p.1.toInt < (c : Int)))).length
  | 0 => by
    have e : M.filter (fun p => decide (0 ≤ p.1.toInt ∧ p.1.toInt < ((0 : Nat) : Int))) = [] := List.filter_eq_nil_iff.mpr (fun p _ h => by
      have := of_decide_eq_true h
      omega)
    rw [e]; rfl
  | c + 1 => by
    rw [← st_ct M c, ← st_eq M c]
    exact List.length_append
theorem st_len (M : List pl_P) (c : Nat) : (st_l M c).length ≤ M.length := by
  rw [st_eq]
  exact List.length_filter_le _ _
theorem si_r1 {n : Int32} {c m : Nat → Int32} {L : List pl_P} (h : rp n c m L) {z : Int} (h0 : 0 ≤ z) (hz : z < (L.length : Int)) : (si L z (z + 1)).reverse = si L z (z + 1) := by
  rw [si_c h h0 (by omega) (by omega), si_n (L := L) (a := z + 1) (b := z + 1) (Int.le_refl _)]
  rfl
noncomputable def cw_Qg2 (A0 : pm_H) (g : pm_G) (K nn : Nat) (q : Nat → Nat) (w : Nat → Int32) (e : Nat → Nat → Int32) (v : Nat → Int32) (f : Nat → Nat → Int32) : Option Value → pm_H → Prop := fun r A' => ∃ (K2 dn2 : Nat) (q2 : Nat → Nat) (w2 : Nat → Int32) (e2 : Nat → Nat → Int32), r = none ∧ A' = cw A0 g K2 nn dn2 q2 w2 e2 v f ∧ cw_I K2 nn dn2 q2 w2 e2 ∧ cw_X A0 K q K2 q2 ∧ ((w 0).toInt + 2 ≤ K2 ∨ K2 = 41) ∧ (w2 0 = w 0 ∧ w2 1 = w 1 ∧ w2 2 = w 2 ∧ w2 3 = w 3) ∧ e2 15 = e 15 ∧ (dn2 : Int) = 40 + 4 * (((w 0).toInt + 1) % 41) ∧ (∀ i9, 35 ≤ i9 → i9 < 40 + 4 * K → (i9 < dn2 ∨ dn2 + 4 ≤ i9) → w2 i9 = w i9 ∧ e2 i9 = e i9) ∧ (w2 dn2).toInt = 0
theorem va_us {f : Nat → Nat → Int32} {i : Nat} {r : Nat → Int32} : va_up f i r i = r := if_pos rfl
theorem va_un {f : Nat → Nat → Int32} {i j : Nat} {r : Nat → Int32} (h : j ≠ i) : va_up f i r j = f j := if_neg h
section
variable {l : Launch} {g : pm_G} {A0 : pm_H} {K nn dn : Nat} {q : Nat → Nat} {w : Nat → Int32} {e : Nat → Nat → Int32} {v : Nat → Int32} {f : Nat → Nat → Int32}
set_option maxRecDepth 100000 in
set_option maxHeartbeats 2000000 in
theorem F_X9_begin (hI : cw_I K nn dn q w e) (hs : cw_S v f) (p0 : (w 0).toInt < 100000) : pm_Mt l g 16 2 4 485 [.ref (q 1)] (cw A0 g K nn dn q w e v f) (cw_Qg2 A0 g K nn q w e v f) := by
  refine mt_X9_begin rfl (fun J hC => ?_)
  have hu := hI.2.1
  unfold cw_W at hu
  have k41 : (41 : Int32).toInt = 41 := rfl
  refine hC.1 0 0 _ _ rfl _ _ _ _ _ ?_
  refine Exists.intro _ (And.intro (cw_o1 hI.1) ?_)
  intro m em
  have e1 : m.toInt = (w 0).toInt + 1 := by rw [em]; exact pm_addc _ _ 1 rfl (by omega) (by omega)
  refine Exists.intro _ (Exists.intro _ (Exists.intro _ (Exists.intro _ (And.intro (c_J9_floorMod_7cf53 (cw A0 g K nn dn q w e v f) m (41 : Int32) (by omega) (by omega)) (And.intro rfl (fun r9 A9 h9 => ?_))))))
  obtain ⟨sl, rfl, rfl, bs⟩ := h9
  rw [k41] at bs
  have cont : ∀ (K2 : Nat) (q2 : Nat → Nat) (w2 : Nat → Int32) (e2 : Nat → Nat → Int32), cw_I K2 nn dn q2 w2 e2 → cw_X A0 K q K2 q2 → ((w 0).toInt + 2 ≤ K2 ∨ K2 = 41) → (w2 0 = w 0 ∧ w2 1 = w 1 ∧ w2 2 = w 2 ∧ w2 3 = w 3) → e2 15 = e 15 → (∀ i9, 35 ≤ i9 → i9 < 40 + 4 * K → w2 i9 = w i9 ∧ e2 i9 = e i9) → sl.toInt.toNat < K2 → ∀ c s : Nat, (Nat.ble c 4 && Nat.ble s 485) = true → J 34 [some (.ref (q2 1)), some (.int sl)] [] (cw A0 g K2 nn dn q2 w2 e2 v f) c s := by
    intro K2 q2 w2 e2 hI2 hX hk hw h15 hfr9 hlt c s hcs
    refine hC.1 1 34 _ _ rfl _ _ _ _ _ ?_
    refine Exists.intro _ (And.intro (cw_o1 hI2.1) ?_)
    refine Exists.intro _ (Exists.intro _ (And.intro (Or.inl (cw_rows hI2.1)) (And.intro (by omega) ?_)))
    have hr : va_rf (cw_rr K2 q2 sl.toInt.toNat) = .ref (q2 (40 + 4 * sl.toInt.toNat)) := by
      unfold cw_rr
      rw [if_pos hlt]
      rfl
    rw [hr]
    refine Exists.intro _ (And.intro (cw_o1 hI2.1) (And.intro rfl ?_))
    rw [cw_p_draft hI2.1]
    have ho : cw_ro K2 (40 + 4 * sl.toInt.toNat) := by unfold cw_ro; omega
    have hI3 : cw_I K2 nn (40 + 4 * sl.toInt.toNat) q2 w2 e2 := ⟨hI2.1, by have h9 := hI2.2.1; unfold cw_W at h9 ⊢; omega, hI2.2.2.1, hI2.2.2.2⟩
    refine Exists.intro _ (And.intro (cw_o1 hI3.1) ?_)
    refine Exists.intro _ (And.intro (cw_ro_o hI3.1 ho) (And.intro rfl ?_))
    rw [cw_p_size hI3.1 ho]
    have u0 : upd w2 (40 + 4 * sl.toInt.toNat) 0 0 = w2 0 := pk_un (by omega)
    have u1 : upd w2 (40 + 4 * sl.toInt.toNat) 0 1 = w2 1 := pk_un (by omega)
    have u2 : upd w2 (40 + 4 * sl.toInt.toNat) 0 2 = w2 2 := pk_un (by omega)
    have u3 : upd w2 (40 + 4 * sl.toInt.toNat) 0 3 = w2 3 := pk_un (by omega)
    have hI4 : cw_I K2 nn (40 + 4 * sl.toInt.toNat) q2 (upd w2 (40 + 4 * sl.toInt.toNat) 0) e2 := ⟨hI3.1, by
      have h9 := hI3.2.1
      unfold cw_W at h9 ⊢
      rw [u0, u1, u3]
      exact h9, cw_Z_up hI3.2.2.1 _ _ (Or.inr (Or.inr (by decide))), hI3.2.2.2⟩
    exact ⟨rfl, hcs, K2, 40 + 4 * sl.toInt.toNat, q2, upd w2 (40 + 4 * sl.toInt.toNat) 0, e2, rfl, rfl, hI4, hX, hk, ⟨u0.trans hw.1, u1.trans hw.2.1, u2.trans hw.2.2.1, u3.trans hw.2.2.2⟩, h15, by omega, fun i9 a1 a2 a3 => ⟨(pk_un (by omega)).trans (hfr9 i9 a1 a2).1, (hfr9 i9 a1 a2).2⟩, by rw [pk_us]; rfl⟩
  refine Exists.intro _ (And.intro (cw_o1 hI.1) ?_)
  refine Exists.intro _ (Exists.intro _ (And.intro (Or.inl (cw_rows hI.1)) (And.intro (by omega) ?_)))
  by_cases hk : sl.toInt.toNat < K
  · have hr : va_rf (cw_rr K q sl.toInt.toNat) = .ref (q (40 + 4 * sl.toInt.toNat)) := by
      unfold cw_rr
      rw [if_pos hk]
      rfl
    rw [hr]
    exact cont K q w e hI cw_X_r (by omega) ⟨rfl, rfl, rfl, rfl⟩ rfl (fun _ _ _ => ⟨rfl, rfl⟩) hk _ _ rfl
  · have hr : va_rf (cw_rr K q sl.toInt.toNat) = .null := by
      unfold cw_rr
      rw [if_neg hk]
      rfl
    rw [hr]
    have hsK : sl.toInt.toNat = K := by omega
    have hK41 : K < 41 := by omega
    refine Exists.intro _ (And.intro (cw_o1 hI.1) ?_)
    refine And.intro rfl (fun a ha => ?_)
    refine Exists.intro _ (Exists.intro _ (Exists.intro _ (Exists.intro _ (And.intro (c_X7_init pm_up_s) (And.intro rfl (fun r9 A9 h9 => ?_))))))
    obtain ⟨rfl, b1, b2, b3, hn, hb, h0, h123, hout⟩ := h9
    obtain ⟨haq, ha0⟩ := gw_none ha
    have nb : ∀ b, b ≠ a → pm_up (cw A0 g K nn dn q w e v f) a (pm_ob 7 (pm_df 7)) b = none → (∀ i, i < 40 + 4 * K → b ≠ q i) ∧ A0 b = none := by
      intro b hba hbn
      rw [pm_up_n hba] at hbn
      exact gw_none hbn
    have g1 := nb b1 hb.2.2.2.1 hn.1
    have g2 := nb b2 hb.2.2.2.2.1 hn.2.1
    have g3 := nb b3 hb.2.2.2.2.2 hn.2.2
    have old : ∀ i, i < 40 + 4 * K → A9 (q i) = some (cw_c g K nn dn q w e v f i) := by
      intro i hi
      rw [hout (q i) (haq i hi).symm (g1.1 i hi).symm (g2.1 i hi).symm (g3.1 i hi).symm, pm_up_n (haq i hi).symm]
      exact gw_a hI.1 hi
    refine Exists.intro 41 (Exists.intro (cw_rr K q) (Exists.intro _ (And.intro (old 10 (by omega)) (And.intro h0 (And.intro (by omega) ?_)))))
    rw [hsK]
    have q2lt : ∀ i, i < 40 + 4 * K → cw_q2 K q a b1 b2 b3 i = q i := fun i hi => cw_q2_lt hi
    have hI2 := cw_I2 hI hK41 haq g1.1 g2.1 g3.1 hb
    have heq : pm_up A9 (q 10) (pm_ra g 41 (va_up (cw_rr K q) K (some a))) = cw A0 g (K + 1) nn dn (cw_q2 K q a b1 b2 b3) (cw_w2 K w) (cw_e2 K e) v f := by
      refine gw_char (fun i hi => ?_) (fun x hx => ?_)
      · by_cases h : i < 40 + 4 * K
        · rw [q2lt i h]
          by_cases h10 : i = 10
          · subst h10
            rw [pm_up_s, ← cw_rr2 (b1 := b1) (b2 := b2) (b3 := b3)]
            rfl
          · rw [pm_up_n (fun e9 => h10 (hI.1 _ _ h (by omega) e9)), old i h, cw_c2_lt (by omega) (by omega) (by omega) h h10]
        · have w0 : ∀ j, cw_w2 K w (40 + 4 * K + j) = 0 := fun j => if_pos (by omega)
          have ee : ∀ j, cw_e2 K e (40 + 4 * K + j) = fun _ => 0 := fun j => if_pos (by omega)
          have qa : cw_q2 K q a b1 b2 b3 (40 + 4 * K) = a := by simp [cw_q2]
          have qb : cw_q2 K q a b1 b2 b3 (40 + 4 * K + 1) = b1 := by simp [cw_q2]
          have qc : cw_q2 K q a b1 b2 b3 (40 + 4 * K + 2) = b2 := by simp [cw_q2]
          have qd : cw_q2 K q a b1 b2 b3 (40 + 4 * K + 3) = b3 := by simp [cw_q2]
          rcases (show i = 40 + 4 * K ∨ i = 40 + 4 * K + 1 ∨ i = 40 + 4 * K + 2 ∨ i = 40 + 4 * K + 3 by omega) with rfl | rfl | rfl | rfl
          · rw [qa, pm_up_n (haq 10 (by omega)), h0]
            unfold cw_c
            rw [if_neg (by omega), if_neg (by omega), if_pos (by omega), qb, qc, qd, w0 1, show cw_w2 K w (40 + 4 * K) = 0 from w0 0]
          · rw [qb, pm_up_n (g1.1 10 (by omega)), h123.1]
            unfold cw_c
            rw [if_neg (by omega), if_neg (by omega), if_neg (by omega), ee 1]
          · rw [qc, pm_up_n (g2.1 10 (by omega)), h123.2.1]
            unfold cw_c
            rw [if_neg (by omega), if_neg (by omega), if_neg (by omega), ee 2]
          · rw [qd, pm_up_n (g3.1 10 (by omega)), h123.2.2]
            unfold cw_c
            rw [if_neg (by omega), if_neg (by omega), if_neg (by omega), ee 3]
      · have hx0 : ∀ i, i < 40 + 4 * K → x ≠ q i := fun i hi => by rw [← q2lt i hi]; exact hx i (by omega)
        have xa : x ≠ a := by have h9 := hx (40 + 4 * K) (by omega); simpa [cw_q2] using h9
        have xb : x ≠ b1 := by have h9 := hx (40 + 4 * K + 1) (by omega); simpa [cw_q2] using h9
        have xc : x ≠ b2 := by have h9 := hx (40 + 4 * K + 2) (by omega); simpa [cw_q2] using h9
        have xd : x ≠ b3 := by have h9 := hx (40 + 4 * K + 3) (by omega); simpa [cw_q2] using h9
        rw [pm_up_n (hx0 10 (by omega)), hout x xa xb xc xd, pm_up_n xa]
        exact gw_out hx0
    rw [heq, show q 1 = cw_q2 K q a b1 b2 b3 1 from (q2lt 1 (by omega)).symm]
    have hX : cw_X A0 K q (K + 1) (cw_q2 K q a b1 b2 b3) := by
      refine ⟨by omega, q2lt, fun i h1 h2 => ?_⟩
      rcases (show i = 40 + 4 * K ∨ i = 40 + 4 * K + 1 ∨ i = 40 + 4 * K + 2 ∨ i = 40 + 4 * K + 3 by omega) with rfl | rfl | rfl | rfl
      · rw [show cw_q2 K q a b1 b2 b3 (40 + 4 * K) = a by simp [cw_q2]]; exact ha0
      · rw [show cw_q2 K q a b1 b2 b3 (40 + 4 * K + 1) = b1 by simp [cw_q2]]; exact g1.2
      · rw [show cw_q2 K q a b1 b2 b3 (40 + 4 * K + 2) = b2 by simp [cw_q2]]; exact g2.2
      · rw [show cw_q2 K q a b1 b2 b3 (40 + 4 * K + 3) = b3 by simp [cw_q2]]; exact g3.2
    exact cont (K + 1) _ _ _ hI2 hX (by omega) ⟨cw_w2_lt (by omega), cw_w2_lt (by omega), cw_w2_lt (by omega), cw_w2_lt (by omega)⟩ (cw_e2_lt (by omega)) (fun i9 _ a2 => ⟨cw_w2_lt a2, cw_e2_lt a2⟩) (by omega) _ _ rfl
end
end
section
/-! the row as it was, kept behind an edit's steps -/
theorem hL_b {K K2 nn dn : Nat} {w w1 : Nat → Int32} {e e1 : Nat → Nat → Int32} (ho : cw_ro K nn) (ho2 : cw_ro K2 dn) (hdn : (dn : Int) = 40 + 4 * (((w 0).toInt + 1) % 41)) (fr : ∀ i9, 35 ≤ i9 → i9 < 40 + 4 * K → (i9 < dn ∨ dn + 4 ≤ i9) → w1 i9 = w i9 ∧ e1 i9 = e i9) : ∀ L, rp (w nn) (e (nn + 1)) (e (nn + 2)) L → (nn : Int) = 40 + 4 * ((w 0).toInt % 41) → nn ≠ dn ∧ rp (w1 nn) (e1 (nn + 1)) (e1 (nn + 2)) L := fun L h1 h2 => by
  unfold cw_ro at ho ho2
  have a0 : nn ≠ dn := by omega
  exact ⟨a0, rp_fr h1 (congrArg Int32.toInt (fr nn (by omega) (by omega) (by omega)).1) (fr (nn + 1) (by omega) (by omega) (by omega)).2 (fr (nn + 2) (by omega) (by omega) (by omega)).2⟩
theorem hL_k {K nn dn : Nat} {w w1 w2 : Nat → Int32} {e e1 e2 : Nat → Nat → Int32} (h : ∀ L, rp (w nn) (e (nn + 1)) (e (nn + 2)) L → (nn : Int) = 40 + 4 * ((w 0).toInt % 41) → nn ≠ dn ∧ rp (w1 nn) (e1 (nn + 1)) (e1 (nn + 2)) L) (ho : cw_ro K nn) (ho2 : cw_ro K dn) (fr : ∀ i9, 35 ≤ i9 → (i9 < dn ∨ dn + 4 ≤ i9) → w2 i9 = w1 i9 ∧ e2 i9 = e1 i9) : ∀ L, rp (w nn) (e (nn + 1)) (e (nn + 2)) L → (nn : Int) = 40 + 4 * ((w 0).toInt % 41) → nn ≠ dn ∧ rp (w2 nn) (e2 (nn + 1)) (e2 (nn + 2)) L := fun L h1 h2 => by
  obtain ⟨a0, a9⟩ := h L h1 h2
  unfold cw_ro at ho ho2
  exact ⟨a0, rp_fr a9 (congrArg Int32.toInt (fr nn (by omega) (by omega)).1) (fr (nn + 1) (by omega) (by omega)).2 (fr (nn + 2) (by omega) (by omega)).2⟩
end
section
section
variable {l : Launch} {g : pm_G} {A0 : pm_H} {K nn dn : Nat} {q : Nat → Nat} {w : Nat → Int32} {e : Nat → Nat → Int32} {v : Nat → Int32} {f : Nat → Nat → Int32}
set_option maxRecDepth 100000 in
set_option maxHeartbeats 2000000 in
theorem F_X10_areUnlikeColours (A : pm_H) (x0 : Int32) (x1 : Int32)  : pm_Mt l g 38 1 0 0 [.int x0, .int x1] A (md_Qp A (fun r => (r = 1 ∧ ((0 ≤ x0.toInt ∧ x0.toInt < 24) ∧ (0 ≤ x1.toInt ∧ x1.toInt < 24) ∧ x0.toInt ≠ x1.toInt)) ∨ (r = 0 ∧ (¬ ((0 ≤ x0.toInt ∧ x0.toInt < 24) ∧ (0 ≤ x1.toInt ∧ x1.toInt < 24) ∧ x0.toInt ≠ x1.toInt))))) := by
  refine mt_X10_areUnlikeColours rfl (fun J hC => ?_)
  have rg_x0 := pm_rng x0
  have rg_x1 := pm_rng x1
  refine hC.1 0 0 _ _ rfl _ _ _ _ _ ?_
  refine Exists.intro _ (Exists.intro _ (Exists.intro _ (Exists.intro _ (And.intro (c_X10_isColour A x0 ) (And.intro rfl (fun r9 A1 h9 => ?_))))))
  rcases h9 with ⟨y2, rfl, rfl, ⟨rfl, by2⟩ | ⟨rfl, by2⟩⟩
  · skip
    have k1 : (1 : Int32).toInt = 1 := rfl
    refine And.intro (fun c9 => absurd c9 (by decide)) (fun _ => ?_)
    refine Exists.intro _ (Exists.intro _ (Exists.intro _ (Exists.intro _ (And.intro (c_X10_isColour A1 x1 ) (And.intro rfl (fun r9 A4 h9 => ?_))))))
    rcases h9 with ⟨y5, rfl, rfl, ⟨rfl, by5⟩ | ⟨rfl, by5⟩⟩
    · skip
      refine And.intro (fun c9 => absurd c9 (by decide)) (fun _ => ?_)
      refine And.intro (fun c7 => ?_) (fun c7 => ?_)
      · skip
        have dc7 : (x0).toInt = (x1 : Int32).toInt := congrArg Int32.toInt c7
        refine hC.1 1 23 _ _ rfl _ _ _ _ _ ?_
        have k0 : (0 : Int32).toInt = 0 := rfl
        refine hC.1 2 24 _ _ rfl _ _ _ _ _ ?_
        exact ⟨rfl, fun _ => (by decide), rfl, (0 : Int32), rfl, rfl, Or.inr ⟨rfl, by first | omega | (dsimp only; omega) | trivial⟩⟩
      · skip
        have dc7 := pm_neI c7
        refine hC.1 2 24 _ _ rfl _ _ _ _ _ ?_
        exact ⟨rfl, fun _ => (by decide), rfl, (1 : Int32), rfl, rfl, Or.inl ⟨rfl, by first | omega | (dsimp only; omega) | trivial⟩⟩
    · skip
      have k0 : (0 : Int32).toInt = 0 := rfl
      refine And.intro (fun _ => ?_) (fun c9 => absurd c9 (by decide))
      refine hC.1 1 23 _ _ rfl _ _ _ _ _ ?_
      refine hC.1 2 24 _ _ rfl _ _ _ _ _ ?_
      exact ⟨rfl, fun _ => (by decide), rfl, (0 : Int32), rfl, rfl, Or.inr ⟨rfl, by first | omega | (dsimp only; omega) | trivial⟩⟩
  · skip
    have k0 : (0 : Int32).toInt = 0 := rfl
    refine And.intro (fun _ => ?_) (fun c9 => absurd c9 (by decide))
    refine hC.1 1 23 _ _ rfl _ _ _ _ _ ?_
    refine hC.1 2 24 _ _ rfl _ _ _ _ _ ?_
    exact ⟨rfl, fun _ => (by decide), rfl, (0 : Int32), rfl, rfl, Or.inr ⟨rfl, by first | omega | (dsimp only; omega) | trivial⟩⟩

end
end
section
section
variable {l : Launch} {g : pm_G} {A0 : pm_H} {K nn dn : Nat} {q : Nat → Nat} {w : Nat → Int32} {e : Nat → Nat → Int32} {v : Nat → Int32} {f : Nat → Nat → Int32}
set_option maxRecDepth 100000 in
set_option maxHeartbeats 2000000 in
theorem F_X7_placeOfNth (hI : cw_I K nn dn q w e) (hs : cw_S v f) {o0 : Nat} (ho0 : cw_ro K o0) (x1 : Int32) (x2 : Int32)  : pm_Mt l g 49 0 0 0 [.ref (q o0), .int x1, .int x2] (cw A0 g K nn dn q w e v f) (md_Qp (cw A0 g K nn dn q w e v f) (fun r => NTH (e (o0 + 1)) (w o0).toInt x1 x2.toInt r.toInt)) := by
  refine mt_X7_placeOfNth rfl (fun J hC => ?_)
  have ro_nn : cw_ro K nn := hI.2.1.2.1
  have ro_dn : cw_ro K dn := hI.2.1.2.2.1
  have hu1 := hI.2.1
  unfold cw_W at hu1
  have rg_x1 := pm_rng x1
  have rg_x2 := pm_rng x2
  have zz0 := cw_sz hI ho0
  refine hC.1 0 0 _ _ rfl _ _ _ _ _ ?_
  have k0 : (0 : Int32).toInt = 0 := rfl
  have lp3 : ∀ (n : Nat) (z3_5 : Int32) (z4_5 : Int32), (0 ≤ z4_5.toInt ∧ z4_5.toInt ≤ (w o0).toInt) → (z3_5.toInt = (cn (e (o0 + 1)) x1 z4_5.toInt.toNat : Int)) → (∀ i9 : Nat, (i9 : Int) < z4_5.toInt → ¬ (e (o0 + 1) i9 = x1 ∧ (cn (e (o0 + 1)) x1 i9 : Int) = x2.toInt)) → 200 - z4_5.toInt < (n : Int) → J 5 [some (.ref (q o0)), some (.int x1), some (.int x2), some (.int z3_5), some (.int z4_5)] [] (cw A0 g K nn dn q w e v f) 0 0 := by
    intro n
    induction n with
    | zero =>
      intro z3_5 z4_5 j0_5 j1_5 j2_5 j3_5
      omega
    | succ n ih4 =>
      intro z3_5 z4_5 j0_5 j1_5 j2_5 j3_5
      have cl9 := cn_le (e (o0 + 1)) x1 z4_5.toInt.toNat
      refine hC.1 1 5 _ _ rfl _ _ _ _ _ ?_
      refine Exists.intro _ (And.intro (cw_ro_o hI.1 ho0) ?_)
      have z5 := cw_sz hI ho0
      refine And.intro (fun c6 => ?_) (fun c6 => ?_)
      · skip
        refine hC.1 4 42 _ _ rfl _ _ _ _ _ ?_
        have km1 : (-1 : Int32).toInt = -1 := rfl
        exact ⟨rfl, fun e9 => absurd e9 (by decide), rfl, (-1 : Int32), rfl, rfl, by first | (exact Or.inr ⟨by omega, by omega, by assumption, by omega⟩) | (exact Or.inl ⟨rfl, fun i9 h9 => j2_5 i9 (by omega)⟩)⟩
      · skip
        refine Exists.intro _ (And.intro (cw_ro_o hI.1 ho0) ?_)
        refine Exists.intro _ (Exists.intro _ (And.intro (Or.inl (cw_ro_1 hI.1 ho0)) (And.intro (by omega) ?_)))
        have w7 := cw_col hI ho0 (z4_5).toInt.toNat
        refine And.intro (fun c8 => ?_) (fun c8 => ?_)
        · skip
          have dc8 := pm_neI c8
          refine hC.1 3 36 _ _ rfl _ _ _ _ _ ?_
          have k1 : (1 : Int32).toInt = 1 := rfl
          intro m9 em_36
          try have e9 : m9.toInt = (z4_5).toInt + (1) := by rw [em_36]; exact pm_addc _ _ (1) rfl (by omega) (by omega)
          exact ih4 z3_5 m9 (by omega) (by first | (rw [show m9.toInt.toNat = z4_5.toInt.toNat + 1 by omega, cn_n (by assumption)]; omega) | (rw [show m9.toInt.toNat = z4_5.toInt.toNat + 1 by omega, cn_y (by assumption)]; omega)) (by intro i9 h9; by_cases h8 : i9 = z4_5.toInt.toNat; (subst h8; intro h7; first | exact absurd h7.1 (by assumption) | omega); (exact j2_5 i9 (by omega))) (by omega)
        · skip
          have dc8 : ((e (o0 + 1) (z4_5).toInt.toNat)).toInt = (x1 : Int32).toInt := congrArg Int32.toInt c8
          refine And.intro (fun c10 => ?_) (fun c10 => ?_)
          · skip
            have dc10 := pm_neI c10
            refine hC.1 2 33 _ _ rfl _ _ _ _ _ ?_
            have k1 : (1 : Int32).toInt = 1 := rfl
            intro m11 em_33
            try have e11 : m11.toInt = (z3_5).toInt + (1) := by rw [em_33]; exact pm_addc _ _ (1) rfl (by omega) (by omega)
            refine hC.1 3 36 _ _ rfl _ _ _ _ _ ?_
            intro m12 em_36
            try have e12 : m12.toInt = (z4_5).toInt + (1) := by rw [em_36]; exact pm_addc _ _ (1) rfl (by omega) (by omega)
            exact ih4 m11 m12 (by omega) (by first | (rw [show m12.toInt.toNat = z4_5.toInt.toNat + 1 by omega, cn_n (by assumption)]; omega) | (rw [show m12.toInt.toNat = z4_5.toInt.toNat + 1 by omega, cn_y (by assumption)]; omega)) (by intro i9 h9; by_cases h8 : i9 = z4_5.toInt.toNat; (subst h8; intro h7; first | exact absurd h7.1 (by assumption) | omega); (exact j2_5 i9 (by omega))) (by omega)
          · skip
            have dc10 : (z3_5).toInt = (x2 : Int32).toInt := congrArg Int32.toInt c10
            exact ⟨rfl, fun e9 => absurd e9 (by decide), rfl, z4_5, rfl, rfl, by first | (exact Or.inr ⟨by omega, by omega, by assumption, by omega⟩) | (exact Or.inl ⟨rfl, fun i9 h9 => j2_5 i9 (by omega)⟩)⟩
  exact lp3 (200 - (0 : Int32).toInt).toNat.succ (0 : Int32) (0 : Int32) (by omega) (by rfl) (by intro i9 h9; omega) (by omega)

set_option maxRecDepth 100000 in
set_option maxHeartbeats 2000000 in
theorem F_X10_nth (hI : cw_I K nn dn q w e) (hs : cw_S v f) (x1 : Int32) (x2 : Int32)  : pm_Mt l g 52 1 0 0 [.ref (q 0), .int x1, .int x2] (cw A0 g K nn dn q w e v f) (md_Qp (cw A0 g K nn dn q w e v f) (fun r => NTH (e (nn + 1)) (w nn).toInt x1 x2.toInt r.toInt)) := by
  refine mt_X10_nth rfl (fun J hC => ?_)
  have ro_nn : cw_ro K nn := hI.2.1.2.1
  have ro_dn : cw_ro K dn := hI.2.1.2.2.1
  have hu1 := hI.2.1
  unfold cw_W at hu1
  have rg_x1 := pm_rng x1
  have rg_x2 := pm_rng x2
  refine hC.1 0 0 _ _ rfl _ _ _ _ _ ?_
  refine Exists.intro _ (And.intro (cw_o0 hI.1) ?_)
  refine Exists.intro _ (And.intro (cw_o1 hI.1) ?_)
  refine And.intro (Exists.intro _ (cw_ro_o hI.1 ro_nn)) (Exists.intro _ (Exists.intro _ (Exists.intro _ (Exists.intro _ (And.intro (F_X7_placeOfNth hI hs ro_nn x1 x2 ) (And.intro rfl (fun r9 A9 h9 => ?_)))))))
  obtain ⟨y2, rfl, rfl, by2⟩ := h9
  exact ⟨rfl, fun e9 => absurd e9 (by decide), rfl, y2, rfl, rfl, by assumption⟩

set_option maxRecDepth 100000 in
set_option maxHeartbeats 2000000 in
theorem F_X7_placeOf (hI : cw_I K nn dn q w e) (hs : cw_S v f) {o0 : Nat} (ho0 : cw_ro K o0) (x1 : Int32)  : pm_Mt l g 46 0 0 0 [.ref (q o0), .int x1] (cw A0 g K nn dn q w e v f) (md_Qp (cw A0 g K nn dn q w e v f) (fun r => (-1 ≤ r.toInt ∧ r.toInt < (w o0).toInt) ∧ FST (e (o0 + 2)) (w o0).toInt x1 r.toInt)) := by
  refine mt_X7_placeOf rfl (fun J hC => ?_)
  have ro_nn : cw_ro K nn := hI.2.1.2.1
  have ro_dn : cw_ro K dn := hI.2.1.2.2.1
  have hu1 := hI.2.1
  unfold cw_W at hu1
  have rg_x1 := pm_rng x1
  have zz0 := cw_sz hI ho0
  refine hC.1 0 0 _ _ rfl _ _ _ _ _ ?_
  have k0 : (0 : Int32).toInt = 0 := rfl
  have lp3 : ∀ (n : Nat) (z2_2 : Int32), (0 ≤ z2_2.toInt ∧ z2_2.toInt ≤ (w o0).toInt) → (∀ i9 : Nat, (i9 : Int) < z2_2.toInt → ¬ e (o0 + 2) i9 = x1) → 200 - z2_2.toInt < (n : Int) → J 2 [some (.ref (q o0)), some (.int x1), some (.int z2_2)] [] (cw A0 g K nn dn q w e v f) 0 0 := by
    intro n
    induction n with
    | zero =>
      intro z2_2 j0_2 j1_2 j2_2
      omega
    | succ n ih4 =>
      intro z2_2 j0_2 j1_2 j2_2
      refine hC.1 1 2 _ _ rfl _ _ _ _ _ ?_
      refine Exists.intro _ (And.intro (cw_ro_o hI.1 ho0) ?_)
      have z5 := cw_sz hI ho0
      refine And.intro (fun c6 => ?_) (fun c6 => ?_)
      · skip
        refine hC.1 3 28 _ _ rfl _ _ _ _ _ ?_
        have km1 : (-1 : Int32).toInt = -1 := rfl
        exact ⟨rfl, fun e9 => absurd e9 (by decide), rfl, (-1 : Int32), rfl, rfl, by first | (exact ⟨by omega, Or.inr ⟨by omega, by omega, by assumption, fun i9 h9 => j1_2 i9 (by omega)⟩⟩) | (exact ⟨by omega, Or.inl ⟨rfl, fun i9 h9 => j1_2 i9 (by omega)⟩⟩)⟩
      · skip
        refine Exists.intro _ (And.intro (cw_ro_o hI.1 ho0) ?_)
        refine Exists.intro _ (Exists.intro _ (And.intro (Or.inl (cw_ro_2 hI.1 ho0)) (And.intro (by omega) ?_)))
        refine And.intro (fun c7 => ?_) (fun c7 => ?_)
        · skip
          have dc7 := pm_neI c7
          refine hC.1 2 22 _ _ rfl _ _ _ _ _ ?_
          have k1 : (1 : Int32).toInt = 1 := rfl
          intro m8 em_22
          try have e8 : m8.toInt = (z2_2).toInt + (1) := by rw [em_22]; exact pm_addc _ _ (1) rfl (by omega) (by omega)
          exact ih4 m8 (by omega) (by intro i9 h9; by_cases h8 : i9 = z2_2.toInt.toNat; (subst h8; assumption); (exact j1_2 i9 (by omega))) (by omega)
        · skip
          have dc7 : ((e (o0 + 2) (z2_2).toInt.toNat)).toInt = (x1 : Int32).toInt := congrArg Int32.toInt c7
          exact ⟨rfl, fun e9 => absurd e9 (by decide), rfl, z2_2, rfl, rfl, by first | (exact ⟨by omega, Or.inr ⟨by omega, by omega, by assumption, fun i9 h9 => j1_2 i9 (by omega)⟩⟩) | (exact ⟨by omega, Or.inl ⟨rfl, fun i9 h9 => j1_2 i9 (by omega)⟩⟩)⟩
  exact lp3 (200 - (0 : Int32).toInt).toNat.succ (0 : Int32) (by omega) (by intro i9 h9; omega) (by omega)

set_option maxRecDepth 100000 in
set_option maxHeartbeats 2000000 in
theorem F_X10_place (hI : cw_I K nn dn q w e) (hs : cw_S v f) (x1 : Int32)  : pm_Mt l g 45 1 0 0 [.ref (q 0), .int x1] (cw A0 g K nn dn q w e v f) (md_Qp (cw A0 g K nn dn q w e v f) (fun r => (-1 ≤ r.toInt ∧ r.toInt < (w nn).toInt) ∧ FST (e (nn + 2)) (w nn).toInt x1 r.toInt)) := by
  refine mt_X10_place rfl (fun J hC => ?_)
  have ro_nn : cw_ro K nn := hI.2.1.2.1
  have ro_dn : cw_ro K dn := hI.2.1.2.2.1
  have hu1 := hI.2.1
  unfold cw_W at hu1
  have rg_x1 := pm_rng x1
  refine hC.1 0 0 _ _ rfl _ _ _ _ _ ?_
  refine Exists.intro _ (And.intro (cw_o0 hI.1) ?_)
  refine Exists.intro _ (And.intro (cw_o1 hI.1) ?_)
  refine And.intro (Exists.intro _ (cw_ro_o hI.1 ro_nn)) (Exists.intro _ (Exists.intro _ (Exists.intro _ (Exists.intro _ (And.intro (F_X7_placeOf hI hs ro_nn x1 ) (And.intro rfl (fun r9 A9 h9 => ?_)))))))
  obtain ⟨y2, rfl, rfl, by2⟩ := h9
  exact ⟨rfl, fun e9 => absurd e9 (by decide), rfl, y2, rfl, rfl, by assumption⟩

end
end
section
/-! every name is 0 or more, kept by each edit -/
noncomputable def nm0 (L : List pl_P) : Prop := ∀ p ∈ L, 0 ≤ p.2.toInt
theorem nm_si {L : List pl_P} (h : nm0 L) (a b : Int) : nm0 (si L a b) := fun p hp => h p (List.mem_of_mem_drop (List.mem_of_mem_take hp))
theorem nm_app {A B : List pl_P} (hA : nm0 A) (hB : nm0 B) : nm0 (A ++ B) := fun p hp => (List.mem_append.mp hp).elim (hA p) (hB p)
theorem nm_rev {A : List pl_P} (h : nm0 A) : nm0 A.reverse := fun p hp => h p (List.mem_reverse.mp hp)
theorem nm_flt {A : List pl_P} (h : nm0 A) (g : pl_P → Bool) : nm0 (A.filter g) := fun p hp => h p (List.mem_filter.mp hp).1
theorem nm_map {A : List pl_P} (h : nm0 A) (g : Int32 → Int32) : nm0 (A.map (fun p => (g p.1, p.2))) := fun p hp => by
  obtain ⟨q, hq, rfl⟩ := List.mem_map.mp hp
  exact h q hq
theorem nm_st {A : List pl_P} (h : nm0 A) : ∀ c, nm0 (st_l A c)
  | 0 => fun _ hp => absurd hp List.not_mem_nil
  | c + 1 => nm_app (nm_st h c) (nm_flt h _)
theorem nm_nw : ∀ (cs : List Int32) (g : Int32), 0 ≤ g.toInt → g.toInt + (cs.length : Int) < 2147483647 → nm0 (nw_l g cs)
  | [], _, _, _ => fun _ hp => absurd hp List.not_mem_nil
  | c :: r, g, h0, hb => by
    have h1 : ((c :: r).length : Int) = (r.length : Int) + 1 := by simp
    have h2 : (g + 1).toInt = g.toInt + 1 := pm_addc g 1 1 rfl (by omega) (by omega)
    intro p hp
    rcases List.mem_cons.mp hp with h | h
    · rw [h]; exact h0
    · exact nm_nw r (g + 1) (by omega) (by omega) p h
theorem nm_cut {L : List pl_P} {l r : Int32} (h : nm0 L) : nm0 ((ed_cut L l r).getD L) := by
  unfold ed_cut
  split
  · exact nm_app (nm_si h _ _) (nm_si h _ _)
  · exact h
theorem nm_insert {L : List pl_P} {g p c : Int32} (h : nm0 L) (hg : 0 ≤ g.toInt) : nm0 ((ed_insert L g p c).getD L) := by
  unfold ed_insert
  split
  · exact nm_app (nm_app (nm_si h _ _) (fun q hq => by rw [List.mem_singleton.mp hq]; exact hg)) (nm_si h _ _)
  · exact h
theorem nm_shift {L : List pl_P} {l r n : Int32} (h : nm0 L) : nm0 ((ed_shift L l r n).getD L) := by
  unfold ed_shift
  split
  · exact nm_app (nm_app (nm_app (nm_si h _ _) (nm_si h _ _)) (nm_si h _ _)) (nm_si h _ _)
  · exact h
theorem nm_swap {L : List pl_P} {l r f t : Int32} (h : nm0 L) : nm0 ((ed_swap L l r f t).getD L) := by
  have k : ∀ a b c d : Int, nm0 (sw_l L a b c d) := fun a b c d => nm_app (nm_app (nm_app (nm_app (nm_si h _ _) (nm_si h _ _)) (nm_si h _ _)) (nm_si h _ _)) (nm_si h _ _)
  unfold ed_swap
  split
  · show nm0 (if _ then _ else _)
    split
    · exact k _ _ _ _
    · exact k _ _ _ _
  · exact h
theorem nm_turn {L : List pl_P} {l r : Int32} (h : nm0 L) : nm0 ((ed_turn L l r).getD L) := by
  unfold ed_turn
  split
  · exact nm_app (nm_app (nm_si h _ _) (nm_rev (nm_si h _ _))) (nm_si h _ _)
  · exact h
theorem nm_copy {L : List pl_P} {g l r p : Int32} (h : nm0 L) (hg : 0 ≤ g.toInt) : nm0 ((ed_copy L g l r p).getD L) := by
  unfold ed_copy
  split
  · rename_i hc
    exact nm_app (nm_app (nm_si h _ _) (nm_nw _ _ hg (by rw [List.length_map, si_len (by omega) (by omega) (by omega)]; omega))) (nm_si h _ _)
  · exact h
theorem nm_draw {L : List pl_P} {g s n k : Int32} (h : nm0 L) (hg : 0 ≤ g.toInt) : nm0 ((ed_draw L g s n k).getD L) := by
  unfold ed_draw
  split
  · rename_i hc
    exact nm_app h (nm_nw _ _ hg (by rw [dr_len]; omega))
  · exact h
theorem nm_sort {L : List pl_P} {l r : Int32} (h : nm0 L) : nm0 ((ed_sort L l r).getD L) := by
  unfold ed_sort
  split
  · exact nm_app (nm_app (nm_si h _ _) (nm_st (nm_si h _ _) _)) (nm_si h _ _)
  · exact h
theorem nm_paint {L : List pl_P} {l r c : Int32} (h : nm0 L) : nm0 ((ed_paint L l r c).getD L) := by
  unfold ed_paint
  split
  · have k : nm0 (rc_l L l.toInt r.toInt (fun _ => c)) := by
      unfold rc_l
      exact nm_app (nm_app (nm_si h _ _) (nm_map (nm_si h _ _) (fun _ => c))) (nm_si h _ _)
    exact k
  · exact h
theorem nm_merge {L : List pl_P} {a b : Int32} (h : nm0 L) : nm0 ((ed_merge L a b).getD L) := by
  unfold ed_merge
  split
  · exact nm_map h (fun c => if c = a then b else c)
  · exact h
theorem nm_exch {L : List pl_P} {a b : Int32} (h : nm0 L) : nm0 ((ed_exch L a b).getD L) := by
  unfold ed_exch
  split
  · exact nm_map h (fun c => if c = a then b else if c = b then a else c)
  · exact h
end
section
section
variable {l : Launch} {g : pm_G} {A0 : pm_H} {h : Nat} {q : Nat → Nat}
set_option maxRecDepth 100000 in
set_option maxHeartbeats 2000000 in
theorem F_X11_place (D : md_D h q) (v : Nat → Int32) (f : Nat → Nat → Int32) (hv : md_V v) (hf : md_F f) (x1 : Int32)  : pm_Mt l g 197 1 0 0 [.ref h, .int x1] (md A0 g h q v f) (md_Qp (md A0 g h q v f) (fun r => (-1 ≤ r.toInt ∧ r.toInt < (v 0).toInt) ∧ ((x1.toInt < 0 ∧ r.toInt = -1) ∨ (0 ≤ x1.toInt ∧ FST (f 1) (v 0).toInt x1 r.toInt)))) := by
  refine mt_X11_place rfl (fun J hC => ?_)
  have hv9 := hv
  unfold md_V at hv9
  have rg_x1 := pm_rng x1
  refine hC.1 0 0 _ _ rfl _ _ _ _ _ ?_
  refine And.intro (fun c1 => ?_) (fun c1 => ?_)
  · skip
    refine hC.1 1 8 _ _ rfl _ _ _ _ _ ?_
    refine And.intro (Exists.intro _ md_o) (Exists.intro _ (Exists.intro _ (Exists.intro _ (Exists.intro _ (And.intro (F_X11_placeOf D v f hv hf x1 ) (And.intro rfl (fun r9 A9 h9 => ?_)))))))
    obtain ⟨y2, rfl, rfl, by2⟩ := h9
    have bp9 := by2.2
    refine hC.1 2 13 _ _ rfl _ _ _ _ _ ?_
    exact ⟨rfl, fun e9 => absurd e9 (by decide), rfl, y2, rfl, rfl, by first | (exact ⟨by omega, Or.inl ⟨by omega, by omega⟩⟩) | (exact ⟨by omega, Or.inr ⟨by omega, bp9⟩⟩)⟩
  · skip
    have km1 : (-1 : Int32).toInt = -1 := rfl
    refine hC.1 2 13 _ _ rfl _ _ _ _ _ ?_
    exact ⟨rfl, fun e9 => absurd e9 (by decide), rfl, (-1 : Int32), rfl, rfl, by first | (exact ⟨by omega, Or.inl ⟨by omega, by omega⟩⟩) | (exact ⟨by omega, Or.inr ⟨by omega, bp9⟩⟩)⟩

end
end
section
/-- the bonds of a row -/
noncomputable def bd (n : Int32) (c a : Nat → Int32) : Prop := ∀ j : Nat, (j : Int) < n.toInt → (a j).toInt = lastEq c (c j) j
theorem bd_fr {n n2 : Int32} {c a c2 a2 : Nat → Int32} (h : bd n c a) (h2 : n2.toInt = n.toInt) (hc : c2 = c) (ha : a2 = a) : bd n2 c2 a2 := by
  subst hc; subst ha
  exact fun j hj => h j (by omega)
end
section
/-! what is told of a row, as functions of its colours c, names m, number n: at, colour, close -/
theorem lastEq_eq {c d : Nat → Int32} {x : Int32} : ∀ k : Nat, (∀ j, j < k → c j = d j) → lastEq c x k = lastEq d x k
  | 0, _ => rfl
  | k + 1, h => by
    have ih := lastEq_eq (x := x) k (fun j hj => h j (by omega))
    show (if c k = x then (k : Int) else lastEq c x k) = (if d k = x then (k : Int) else lastEq d x k)
    rw [h k (by omega), ih]
theorem nextEq_eq {c d : Nat → Int32} {x : Int32} : ∀ n k : Nat, (∀ j, j < k + n → c j = d j) → nextEq c x k n = nextEq d x k n
  | 0, _, _ => rfl
  | n + 1, k, h => by
    have ih := nextEq_eq (x := x) n (k + 1) (fun j hj => h j (by omega))
    show (if c k = x then (k : Int) else nextEq c x (k + 1) n) = (if d k = x then (k : Int) else nextEq d x (k + 1) n)
    rw [h k (by omega), ih]
noncomputable def nmA (m : Nat → Int32) (n p : Int) : Int32 := if 0 ≤ p ∧ p < n then m p.toNat else -1
theorem nmA_y {m : Nat → Int32} {n p : Int} (h : 0 ≤ p ∧ p < n) : nmA m n p = m p.toNat := if_pos h
theorem nmA_n {m : Nat → Int32} {n p : Int} (h : ¬ (0 ≤ p ∧ p < n)) : nmA m n p = -1 := if_neg h
theorem nmA_eq {m k : Nat → Int32} {n p : Int} (h : ∀ j : Nat, (j : Int) < n → m j = k j) : nmA m n p = nmA k n p := by
  by_cases hp : 0 ≤ p ∧ p < n
  · rw [nmA_y hp, nmA_y hp]; exact h _ (by omega)
  · rw [nmA_n hp, nmA_n hp]
noncomputable def bo (c m : Nat → Int32) (p : Int) : Int32 := nmA m p (lastEq c (c p.toNat) p.toNat)
theorem bo_n {c m : Nat → Int32} {p : Int} (h : lastEq c (c p.toNat) p.toNat < 0) : bo c m p = -1 := nmA_n (by omega)
theorem bo_y {c m : Nat → Int32} {p : Int} {y : Int32} (hp : 0 ≤ p) (hy : y.toInt = lastEq c (c p.toNat) p.toNat) (h : 0 ≤ y.toInt) : bo c m p = m y.toInt.toNat := by
  have h1 := lastEq_lt c (c p.toNat) p.toNat
  unfold bo; rw [nmA_y (by omega), ← hy]
theorem bo_eq {c m d k : Nat → Int32} {p : Int} (hc : ∀ j : Nat, (j : Int) ≤ p → c j = d j) (hm : ∀ j : Nat, (j : Int) ≤ p → m j = k j) (hp : 0 ≤ p) : bo c m p = bo d k p := by
  unfold bo
  rw [hc p.toNat (by omega), lastEq_eq p.toNat (fun j hj => hc j (by omega))]
  exact nmA_eq (fun j hj => hm j (by omega))
noncomputable def BA (c m : Nat → Int32) (n p : Int) : Int32 := if 0 ≤ p ∧ p < n then bo c m p else -1
theorem BA_y {c m : Nat → Int32} {n p : Int} (h : 0 ≤ p ∧ p < n) : BA c m n p = bo c m p := if_pos h
theorem BA_n {c m : Nat → Int32} {n p : Int} (h : ¬ (0 ≤ p ∧ p < n)) : BA c m n p = -1 := if_neg h
end
section
/-! bits counted; counts of a span's colours; the palette -/
theorem pc_low : ∀ (N m : Nat), m ≤ N → m ≠ 0 → ∃ i, m.testBit i = true ∧ ∀ j, (m.testBit j && (m - 1).testBit j) = (decide (j ≠ i) && m.testBit j) := by
  intro N
  induction N with
  | zero => intro m h1 h2; omega
  | succ N ih =>
    intro m h1 h2
    by_cases ho : m % 2 = 1
    · refine ⟨0, by rw [Nat.testBit_zero]; exact decide_eq_true ho, fun j => ?_⟩
      cases j with
      | zero => rw [Nat.testBit_zero, Nat.testBit_zero, decide_eq_false (show ¬ (m - 1) % 2 = 1 by omega)]; simp
      | succ j => rw [Nat.testBit_succ, Nat.testBit_succ, show (m - 1) / 2 = m / 2 by omega]; simp
    · obtain ⟨i, hi, hj⟩ := ih (m / 2) (by omega) (by omega)
      refine ⟨i + 1, by rw [Nat.testBit_succ]; exact hi, fun j => ?_⟩
      cases j with
      | zero => rw [Nat.testBit_zero, decide_eq_false ho]; simp
      | succ j =>
        rw [Nat.testBit_succ, Nat.testBit_succ, show (m - 1) / 2 = m / 2 - 1 by omega, hj j]
        simp
theorem bt_m1 {x : Int32} (h : ¬ x = 0) : ∃ i, i < 32 ∧ bt x i = true ∧ ∀ j, bt (x &&& (x - 1)) j = (decide (j ≠ i) && bt x j) := by
  have h0 : x.toBitVec ≠ 0 := fun q => h (by
    have : x = ⟨⟨x.toBitVec⟩⟩ := rfl
    rw [this, q]; rfl)
  have h3 : x.toBitVec.toNat ≠ 0 := fun q => h0 (BitVec.eq_of_toNat_eq (by simpa using q))
  have h4 : (x.toBitVec - 1).toNat = x.toBitVec.toNat - 1 := by
    rw [BitVec.toNat_sub]
    have := x.toBitVec.isLt
    have h5 : (1 : BitVec 32).toNat = 1 := rfl
    rw [h5]
    omega
  obtain ⟨i, hi, hj⟩ := pc_low _ x.toBitVec.toNat (Nat.le_refl _) h3
  have hb : ∀ j, bt x j = x.toBitVec.toNat.testBit j := fun j => (BitVec.testBit_toNat _).symm
  have hb1 : ∀ j, bt (x - 1) j = (x.toBitVec.toNat - 1).testBit j := fun j => by
    rw [← h4, BitVec.testBit_toNat]; rfl
  refine ⟨i, ?_, by rw [hb]; exact hi, fun j => ?_⟩
  · by_cases h9 : i < 32
    · exact h9
    · have h8 := hb i
      rw [b_big (by omega), hi] at h8
      exact absurd h8 (by decide)
  · rw [b_and, hb1, hb]; exact hj j
theorem cntB_clr {x y : Int32} {i : Nat} (hx : bt x i = true) (h : ∀ j, bt y j = (decide (j ≠ i) && bt x j)) : ∀ k, cntB y k + (if i < k then 1 else 0) = cntB x k
  | 0 => by rw [if_neg (by omega)]; rfl
  | k + 1 => by
    have ih := cntB_clr hx h k
    rw [cntB, cntB]
    by_cases e : k = i
    · have hy : bt y k = false := by rw [h k, decide_eq_false (fun h9 => h9 e)]; rfl
      rw [hy, show bt x k = true by rw [e]; exact hx, if_neg (by decide), if_pos rfl, if_pos (by omega)]
      rw [if_neg (by omega)] at ih
      omega
    · have hy : bt y k = bt x k := by rw [h k, decide_eq_true e]; rfl
      rw [hy]
      obtain ⟨z, hz⟩ : ∃ z : Nat, z = (if bt x k = true then 1 else 0) := ⟨_, rfl⟩
      rw [← hz]
      by_cases e2 : i < k
      · rw [if_pos e2] at ih; rw [if_pos (by omega)]; omega
      · rw [if_neg e2] at ih; rw [if_neg (by omega)]; omega
theorem pcB {x : Int32} (h : ¬ x = 0) : cntB (x &&& (x - 1)) 32 + 1 = cntB x 32 := by
  obtain ⟨i, hi, h1, h2⟩ := bt_m1 h
  have h3 := cntB_clr h1 h2 32
  rw [if_pos hi] at h3
  exact h3
theorem cntB_z : ∀ k, cntB 0 k = 0
  | 0 => rfl
  | k + 1 => by rw [cntB, cntB_z k, b_0, if_neg (by decide)]
theorem cntB_24 {x : Int32} (h : ∀ i, 24 ≤ i → i < 32 → bt x i = false) : ∀ k, k ≤ 8 → cntB x (24 + k) = cntB x 24
  | 0, _ => rfl
  | k + 1, hk => by
    show cntB x (24 + k + 1) = _
    rw [cntB, cntB_24 h k (by omega), h (24 + k) (by omega) (by omega), if_neg (by decide), Nat.add_zero]
theorem b_y1 {x c : Int32} (h : 0 ≤ c.toInt ∧ c.toInt ≤ 31) (hb : ((x >>> (c &&& 31)) &&& 1) = 1) : bt x c.toInt.toNat = true := b_y h (by rw [hb]; decide)
noncomputable def msB (W : Nat → Int32) (x : Int32) : Nat → Int32
  | 0 => 0
  | k + 1 => msB W x k + if bt x k = true then W k else 0
theorem msB_z (W : Nat → Int32) : ∀ k, msB W 0 k = 0
  | 0 => rfl
  | k + 1 => by rw [msB, msB_z W k, b_0, if_neg (by decide)]; rfl
theorem msB_eq {W V : Nat → Int32} {x : Int32} : ∀ k, (∀ j, j < k → W j = V j) → msB W x k = msB V x k
  | 0, _ => rfl
  | k + 1, h => by rw [msB, msB, msB_eq k (fun j hj => h j (by omega)), h k (by omega)]
theorem ad_r (a b c : Int32) : a + b + c = a + c + b := by rw [Int32.add_assoc, Int32.add_comm b c, ← Int32.add_assoc]
theorem msB_up {W : Nat → Int32} {x y : Int32} {i : Nat} (hx : bt x i = false) (hy : bt y i = true) (h : ∀ j, j ≠ i → bt y j = bt x j) : ∀ k, msB W y k = msB W x k + (if i < k then W i else 0)
  | 0 => by rw [if_neg (by omega)]; rfl
  | k + 1 => by
    have ih := msB_up (W := W) hx hy h k
    rw [msB, msB, ih]
    by_cases e : k = i
    · rw [e, hy, hx, if_neg (by omega), if_pos rfl, if_neg (by decide), if_pos (by omega), Int32.add_zero]
    · rw [h k e]
      by_cases e2 : i < k
      · rw [if_pos e2, if_pos (show i < k + 1 by omega), ad_r]
      · rw [if_neg e2, if_neg (show ¬ i < k + 1 by omega), ad_r]
theorem cntB_up {x y : Int32} {i : Nat} (hx : bt x i = false) (hy : bt y i = true) (h : ∀ j, j ≠ i → bt y j = bt x j) (k : Nat) : cntB y k = cntB x k + (if i < k then 1 else 0) := by
  refine (cntB_clr (x := y) (y := x) hy (fun j => ?_) k).symm
  by_cases e : j = i
  · rw [e, hx, decide_eq_false (fun h9 => h9 rfl)]; rfl
  · rw [h j e, decide_eq_true e]; rfl
noncomputable def upN (N : Nat → Nat) (c : Nat) : Nat → Nat := fun x => if x = c then N x + 1 else N x
theorem upN_s (N : Nat → Nat) (c : Nat) : upN N c c = N c + 1 := if_pos rfl
theorem upN_n {N : Nat → Nat} {c x : Nat} (h : x ≠ c) : upN N c x = N x := if_neg h
noncomputable def nc (c : Nat → Int32) (l : Nat) : Nat → (Nat → Nat)
  | 0 => fun _ => 0
  | k + 1 => upN (nc c l k) (c (l + k)).toInt.toNat
noncomputable def ok24 (c : Nat → Int32) : Prop := ∀ j, 0 ≤ (c j).toInt ∧ (c j).toInt ≤ 23
theorem nc_hi {c : Nat → Int32} {l x : Nat} (hc : ok24 c) (hx : 24 ≤ x) : ∀ k, nc c l k x = 0
  | 0 => rfl
  | k + 1 => by
    have h0 := hc (l + k)
    rw [nc, upN_n (by omega), nc_hi hc hx k]
theorem setF_eq {c d : Nat → Int32} {l : Nat} : ∀ k, (∀ j, l ≤ j → j < l + k → c j = d j) → setF c l k = setF d l k
  | 0, _ => rfl
  | k + 1, h => by rw [setF, setF, setF_eq k (fun j hi hj => h j hi (by omega)), h (l + k) (by omega) (by omega)]
theorem bt_set {c : Nat → Int32} {l : Nat} (hc : ok24 c) {i : Nat} (hi : i < 32) : ∀ k, bt (setF c l k) i = decide (0 < nc c l k i)
  | 0 => by
    show bt 0 i = _
    rw [b_0]; rfl
  | k + 1 => by
    have ih := bt_set (l := l) hc hi k
    have h0 := hc (l + k)
    rw [setF, b_or, b_one (by omega) hi, ih, nc]
    by_cases e : i = (c (l + k)).toInt.toNat
    · rw [decide_eq_true e, Bool.or_true, ← e, upN_s, decide_eq_true (by omega)]
    · rw [decide_eq_false e, Bool.or_false, upN_n e]
theorem set_24 {c : Nat → Int32} {l : Nat} (hc : ok24 c) (k : Nat) : cntB (setF c l k) 32 = cntB (setF c l k) 24 := cntB_24 (fun i h1 h2 => by rw [bt_set hc h2, nc_hi hc h1]; rfl) 8 (by omega)
noncomputable def PAL (v k W : Nat → Int32) (N : Nat → Nat) (n : Int) : Prop := (∀ x, x < 24 → (k x).toInt = (N x : Int)) ∧ (v 1).toInt = n ∧ (v 2).toInt = (cntB (v 3) 24 : Int) ∧ (∀ i, i < 32 → bt (v 3) i = decide (0 < N i)) ∧ v 4 = msB W (v 3) 24 ∧ (∀ x, (N x : Int) ≤ n) ∧ n ≤ 1000 ∧ (∀ x, 24 ≤ x → N x = 0)
theorem PAL_0 {v k W : Nat → Int32} (hk : ∀ x, x < 24 → k x = 0) (h1 : v 1 = 0) (h2 : v 2 = 0) (h3 : v 3 = 0) (h4 : v 4 = 0) : PAL v k W (fun _ => 0) 0 := by
  refine ⟨fun x hx => by rw [hk x hx]; rfl, by rw [h1]; rfl, by rw [h2, h3, cntB_z]; rfl, fun i hi => by rw [h3, b_0]; rfl, by rw [h4, h3, msB_z], fun x => by simp, by decide, fun _ _ => rfl⟩
theorem PAL_new {v v2 k k2 W : Nat → Int32} {N : Nat → Nat} {n : Int} {c : Int32} (h : PAL v k W N n) (hc : 0 ≤ c.toInt ∧ c.toInt ≤ 23) (hn : n < 1000) (hk0 : ∀ x, x ≠ c.toInt.toNat → k2 x = k x) (hk : (k2 c.toInt.toNat).toInt = (k c.toInt.toNat).toInt + 1) (h0 : (k2 c.toInt.toNat).toInt = 1) (h1 : (v2 1).toInt = (v 1).toInt + 1) (h2 : (v2 2).toInt = (v 2).toInt + 1) (h3 : v2 3 = v 3 ||| ((1 : Int32) <<< (c &&& 31))) (h4 : v2 4 = v 4 + W c.toInt.toNat) : PAL v2 k2 W (upN N c.toInt.toNat) (n + 1) := by
  obtain ⟨p1, p2, p3, p4, p5, p6, p7, p8⟩ := h
  have q1 := p1 c.toInt.toNat (by omega)
  have hN : N c.toInt.toNat = 0 := by omega
  have b1 : bt (v 3) c.toInt.toNat = false := by rw [p4 _ (by omega), hN]; rfl
  have b2 : ∀ i, i < 32 → bt (v2 3) i = (bt (v 3) i || decide (i = c.toInt.toNat)) := fun i hi => by rw [h3, b_or, b_one (by omega) hi]
  have b3 : bt (v2 3) c.toInt.toNat = true := by rw [b2 _ (by omega), decide_eq_true rfl, Bool.or_true]
  have b4 : ∀ j, j ≠ c.toInt.toNat → bt (v2 3) j = bt (v 3) j := fun j hj => by
    by_cases h9 : j < 32
    · rw [b2 j h9, decide_eq_false hj, Bool.or_false]
    · rw [b_big (by omega), b_big (by omega)]
  refine ⟨fun x hx => ?_, by omega, ?_, fun i hi => ?_, ?_, fun x => ?_, by omega, fun x hx => ?_⟩
  · by_cases e : x = c.toInt.toNat
    · rw [e, upN_s]; omega
    · rw [upN_n e, hk0 x e]; exact p1 x hx
  · rw [cntB_up b1 b3 b4 24, if_pos (by omega)]; omega
  · by_cases e : i = c.toInt.toNat
    · rw [e, upN_s, b3, decide_eq_true (by omega)]
    · rw [upN_n e, b4 i e, p4 i hi]
  · rw [h4, p5, msB_up b1 b3 b4 24, if_pos (by omega)]
  · have := p6 x
    unfold upN; split <;> omega
  · rw [upN_n (by omega)]; exact p8 x hx
theorem PAL_old {v v2 k k2 W : Nat → Int32} {N : Nat → Nat} {n : Int} {c : Int32} (h : PAL v k W N n) (hc : 0 ≤ c.toInt ∧ c.toInt ≤ 23) (hn : n < 1000) (hk0 : ∀ x, x ≠ c.toInt.toNat → k2 x = k x) (hk : (k2 c.toInt.toNat).toInt = (k c.toInt.toNat).toInt + 1) (h0 : ¬ (k2 c.toInt.toNat).toInt = 1) (h1 : (v2 1).toInt = (v 1).toInt + 1) (h2 : v2 2 = v 2) (h3 : v2 3 = v 3) (h4 : v2 4 = v 4) : PAL v2 k2 W (upN N c.toInt.toNat) (n + 1) := by
  obtain ⟨p1, p2, p3, p4, p5, p6, p7, p8⟩ := h
  have q1 := p1 c.toInt.toNat (by omega)
  refine ⟨fun x hx => ?_, by omega, by rw [h2, h3]; exact p3, fun i hi => ?_, by rw [h3, h4]; exact p5, fun x => ?_, by omega, fun x hx => ?_⟩
  · by_cases e : x = c.toInt.toNat
    · rw [e, upN_s]; omega
    · rw [upN_n e, hk0 x e]; exact p1 x hx
  · rw [h3, p4 i hi]
    by_cases e : i = c.toInt.toNat
    · rw [e, upN_s, decide_eq_true (by omega), decide_eq_true (by omega)]
    · rw [upN_n e]
  · have := p6 x
    unfold upN; split <;> omega
  · rw [upN_n (by omega)]; exact p8 x hx
theorem PAL_t1 {v v1 v2 v3 v4 k k1 W : Nat → Int32} {m6 m18 m36 m63 c : Int32} (hc : 0 ≤ c.toInt ∧ c.toInt ≤ 23) (e7 : v1 = upd v 1 m6) (e6 : m6 = v 1 + 1) (e19 : k1 = upd k c.toInt.toNat m18) (e18 : m18 = k c.toInt.toNat + 1) (d : (k1 c.toInt.toNat).toInt = 1) (e37 : v2 = upd v1 2 m36) (e36 : m36 = v1 2 + 1) (e49 : v3 = upd v2 3 (v2 3 ||| ((1 : Int32) <<< (c &&& 31)))) (e64 : v4 = upd v3 4 m63) (e63 : m63 = v3 4 + W c.toInt.toNat) : (∀ N n, PAL v k W N n → n < 1000 → PAL v4 k1 W (upN N c.toInt.toNat) (n + 1)) ∧ (∀ i, i = 0 ∨ 5 ≤ i → v4 i = v i) := by
  have a2 : v1 2 = v 2 := by rw [e7, pk_un (by decide)]
  have a3 : v2 3 = v 3 := by rw [e37, pk_un (by decide), e7, pk_un (by decide)]
  have a4 : v3 4 = v 4 := by rw [e49, pk_un (by decide), e37, pk_un (by decide), e7, pk_un (by decide)]
  refine ⟨fun N n h hn => ?_, fun i hi => by rw [e64, pk_un (by omega), e49, pk_un (by omega), e37, pk_un (by omega), e7, pk_un (by omega)]⟩
  have h1 := h
  obtain ⟨p1, p2, p3, p4, p5, p6, p7, p8⟩ := h1
  have q1 := p1 c.toInt.toNat (by omega)
  have q2 := p6 c.toInt.toNat
  have q3 := cntB_le (v 3) 24
  have q4 := p6 0
  refine PAL_new h hc hn (fun x hx => by rw [e19, pk_un hx]) (by rw [e19, pk_us, e18]; exact pm_addc _ _ 1 rfl (by omega) (by omega)) d ?_ ?_ ?_ ?_
  · rw [e64, pk_un (by decide), e49, pk_un (by decide), e37, pk_un (by decide), e7, pk_us, e6]; exact pm_addc _ _ 1 rfl (by omega) (by omega)
  · rw [e64, pk_un (by decide), e49, pk_un (by decide), e37, pk_us, e36, a2]; exact pm_addc _ _ 1 rfl (by omega) (by omega)
  · rw [e64, pk_un (by decide), e49, pk_us, a3]
  · rw [e64, pk_us, e63, a4]
theorem PAL_t2 {v v1 k k1 W : Nat → Int32} {m6 m18 c : Int32} (hc : 0 ≤ c.toInt ∧ c.toInt ≤ 23) (e7 : v1 = upd v 1 m6) (e6 : m6 = v 1 + 1) (e19 : k1 = upd k c.toInt.toNat m18) (e18 : m18 = k c.toInt.toNat + 1) (d : ¬ (k1 c.toInt.toNat).toInt = 1) : (∀ N n, PAL v k W N n → n < 1000 → PAL v1 k1 W (upN N c.toInt.toNat) (n + 1)) ∧ (∀ i, i = 0 ∨ 5 ≤ i → v1 i = v i) := by
  refine ⟨fun N n h hn => ?_, fun i hi => by rw [e7, pk_un (by omega)]⟩
  have h1 := h
  obtain ⟨p1, p2, p3, p4, p5, p6, p7, p8⟩ := h1
  have q1 := p1 c.toInt.toNat (by omega)
  have q2 := p6 c.toInt.toNat
  have q4 := p6 0
  refine PAL_old h hc hn (fun x hx => by rw [e19, pk_un hx]) (by rw [e19, pk_us, e18]; exact pm_addc _ _ 1 rfl (by omega) (by omega)) d ?_ ?_ ?_ ?_
  · rw [e7, pk_us, e6]; exact pm_addc _ _ 1 rfl (by omega) (by omega)
  · rw [e7, pk_un (by decide)]
  · rw [e7, pk_un (by decide)]
  · rw [e7, pk_un (by decide)]
theorem PAL_set {v k W c : Nat → Int32} {l j : Nat} {n : Int} (hc : ok24 c) (h : PAL v k W (nc c l j) n) : v 3 = setF c l j := b_ext (fun i hi => by rw [h.2.2.2.1 i hi, bt_set hc hi])
theorem PAL_kd {v k W c : Nat → Int32} {l j : Nat} {n : Int} (hc : ok24 c) (h : PAL v k W (nc c l j) n) : (v 2).toInt = (cntB (setF c l j) 24 : Int) := by rw [← PAL_set hc h]; exact h.2.2.1
theorem PAL_ms {v k W c : Nat → Int32} {l j : Nat} {n : Int} (hc : ok24 c) (h : PAL v k W (nc c l j) n) : v 4 = msB W (setF c l j) 24 := by rw [← PAL_set hc h]; exact h.2.2.2.2.1
noncomputable def sS (c : Nat → Int32) (l r : Int) : Int32 := setF c l.toNat (r + 1 - l).toNat
theorem sS_eq {c d : Nat → Int32} {n l r : Int} (hc : ∀ j : Nat, (j : Int) < n → c j = d j) (h : 0 ≤ l ∧ r < n) : sS c l r = sS d l r := setF_eq _ (fun j hi hj => hc j (by omega))
end
section
/-! how many bonds an edit touches: told by the row before it (n, c, m) and the row behind it (c2, m2) -/
noncomputable def tcN (n : Int) (c m c2 m2 : Nat → Int32) : Nat → Nat
  | 0 => 0
  | k + 1 => tcN n c m c2 m2 k + if (0 ≤ nextEq m (m2 k) 0 n.toNat ∧ ¬ bo c m (nextEq m (m2 k) 0 n.toNat) = bo c2 m2 k) then 1 else 0
theorem tcN_y {n : Int} {c m c2 m2 : Nat → Int32} {k : Nat} (h : 0 ≤ nextEq m (m2 k) 0 n.toNat ∧ ¬ bo c m (nextEq m (m2 k) 0 n.toNat) = bo c2 m2 k) : tcN n c m c2 m2 (k + 1) = tcN n c m c2 m2 k + 1 := by rw [tcN, if_pos h]
theorem tcN_n {n : Int} {c m c2 m2 : Nat → Int32} {k : Nat} (h : ¬ (0 ≤ nextEq m (m2 k) 0 n.toNat ∧ ¬ bo c m (nextEq m (m2 k) 0 n.toNat) = bo c2 m2 k)) : tcN n c m c2 m2 (k + 1) = tcN n c m c2 m2 k := by rw [tcN, if_neg h, Nat.add_zero]
theorem tcN_eq {n : Int} {c m c2 m2 d k d2 k2 : Nat → Int32} (hc : ∀ j : Nat, (j : Int) < n → c j = d j) (hm : ∀ j : Nat, (j : Int) < n → m j = k j) : ∀ N : Nat, (∀ j, j < N → c2 j = d2 j) → (∀ j, j < N → m2 j = k2 j) → tcN n c m c2 m2 N = tcN n d k d2 k2 N
  | 0, _, _ => rfl
  | N + 1, h1, h2 => by
    have ih := tcN_eq (c2 := c2) (m2 := m2) (d2 := d2) (k2 := k2) hc hm N (fun j hj => h1 j (by omega)) (fun j hj => h2 j (by omega))
    have e1 : nextEq m (m2 N) 0 n.toNat = nextEq k (k2 N) 0 n.toNat := by rw [h2 N (by omega)]; exact nextEq_eq _ _ (fun j hj => hm j (by omega))
    have e2 : bo c2 m2 (N : Int) = bo d2 k2 (N : Int) := bo_eq (fun j hj => h1 j (by omega)) (fun j hj => h2 j (by omega)) (by omega)
    rw [tcN, tcN, ih, e1, e2]
    by_cases h0 : 0 ≤ nextEq k (k2 N) 0 n.toNat
    · have h3 := nextEq_lt k (k2 N) 0 n.toNat
      rw [bo_eq (c := c) (m := m) (d := d) (k := k) (fun j hj => hc j (by omega)) (fun j hj => hm j (by omega)) h0]
    · rw [if_neg (fun h9 => h0 h9.1), if_neg (fun h9 => h0 h9.1)]
noncomputable def OB (v : Nat → Int32) (f : Nat → Nat → Int32) (n : Int) (c m : Nat → Int32) : Prop := (v 1).toInt = n ∧ ∀ k : Nat, (k : Int) < n → f 3 k = m k ∧ f 4 k = bo c m k
theorem OB_fr {v v2 : Nat → Int32} {f f2 : Nat → Nat → Int32} {n : Int} {c m : Nat → Int32} (h : OB v f n c m) (h1 : (v2 1).toInt = (v 1).toInt) (h3 : f2 3 = f 3) (h4 : f2 4 = f 4) : OB v2 f2 n c m := by
  unfold OB at *
  rw [h1, h3, h4]; exact h
theorem nextEq_0 {m : Nat → Int32} {x : Int32} : ∀ (n k j : Nat), k ≤ j → j < k + n → m j = x → (∀ i, k ≤ i → i < j → ¬ m i = x) → nextEq m x k n = (j : Int)
  | 0, _, _, h1, h2, _, _ => by omega
  | n + 1, k, j, h1, h2, h3, h4 => by
    show (if m k = x then (k : Int) else nextEq m x (k + 1) n) = _
    by_cases e : j = k
    · subst e; rw [if_pos h3]
    · rw [if_neg (h4 k (Nat.le_refl _) (by omega))]
      exact nextEq_0 n (k + 1) j (by omega) (by omega) h3 (fun i hi hj => h4 i (by omega) hj)
theorem nextEq_m {m : Nat → Int32} {x : Int32} : ∀ (n k : Nat), (∀ i, k ≤ i → i < k + n → ¬ m i = x) → nextEq m x k n = -1
  | 0, _, _ => rfl
  | n + 1, k, h => by
    show (if m k = x then (k : Int) else nextEq m x (k + 1) n) = _
    rw [if_neg (h k (Nat.le_refl _) (by omega))]
    exact nextEq_m n (k + 1) (fun i hi hj => h i (by omega) (by omega))
noncomputable def UQ (n : Int) (m : Nat → Int32) : Prop := (∀ i j : Nat, (i : Int) < n → (j : Int) < n → m i = m j → i = j) ∧ ∀ i : Nat, (i : Int) < n → 0 ≤ (m i).toInt
theorem UQ_n {n : Int} {m : Nat → Int32} (h : UQ n m) {p : Int} (hp : 0 ≤ p ∧ p < n) : nextEq m (m p.toNat) 0 n.toNat = p := by
  rw [nextEq_0 n.toNat 0 p.toNat (by omega) (by omega) rfl (fun i hi hj e => by have := h.1 i p.toNat (by omega) (by omega) e; omega)]
  omega
noncomputable def tcb (n : Int) (c m : Nat → Int32) (x : Int32) : Int32 := if 0 ≤ nextEq m x 0 n.toNat then bo c m (nextEq m x 0 n.toNat) else -2
theorem tcb_y {n : Int} {c m : Nat → Int32} (h : UQ n m) {p : Int} (hp : 0 ≤ p ∧ p < n) {r : Int32} (hr : r = bo c m p) : r = tcb n c m (m p.toNat) := by
  unfold tcb; rw [UQ_n h hp, if_pos hp.1]; exact hr
theorem tcb_n {n : Int} {c m : Nat → Int32} {x : Int32} (h : ∀ i : Nat, (i : Int) < n → ¬ m i = x) : tcb n c m x = -2 := by
  unfold tcb; rw [nextEq_m n.toNat 0 (fun i _ hi => h i (by omega))]; rfl
theorem bo_ge {n : Int} {c m : Nat → Int32} (h : UQ n m) {p : Int} (hp : 0 ≤ p ∧ p < n) : ¬ bo c m p = -2 := by
  have h1 := lastEq_lt c (c p.toNat) p.toNat
  intro e
  by_cases h0 : 0 ≤ lastEq c (c p.toNat) p.toNat
  · unfold bo at e
    rw [nmA_y (by omega)] at e
    have h2 := h.2 (lastEq c (c p.toNat) p.toNat).toNat (by omega)
    rw [e] at h2
    exact absurd h2 (by decide)
  · rw [bo_n (by omega)] at e
    exact absurd e (by decide)
theorem tcb_2 {n : Int} {c m : Nat → Int32} {x : Int32} (h : UQ n m) : (tcb n c m x = -2) ↔ ¬ 0 ≤ nextEq m x 0 n.toNat := by
  unfold tcb
  by_cases h0 : 0 ≤ nextEq m x 0 n.toNat
  · rw [if_pos h0]
    have h1 := nextEq_lt m x 0 n.toNat
    exact ⟨fun e => absurd e (bo_ge h ⟨h0, by omega⟩), fun e => absurd h0 e⟩
  · rw [if_neg h0]; exact ⟨fun _ => h0, fun _ => rfl⟩
theorem tcN_b {n : Int} {c m c2 m2 : Nat → Int32} (h : UQ n m) {k : Nat} {b r : Int32} (hb : b = tcb n c m (m2 k)) (hr : r = bo c2 m2 (k : Int)) : tcN n c m c2 m2 (k + 1) = tcN n c m c2 m2 k + if ¬ b = -2 ∧ ¬ b = r then 1 else 0 := by
  have h2 := tcb_2 (c := c) (x := m2 k) h
  subst hb hr
  by_cases h0 : 0 ≤ nextEq m (m2 k) 0 n.toNat
  · have e1 : tcb n c m (m2 k) = bo c m (nextEq m (m2 k) 0 n.toNat) := if_pos h0
    have h3 : ¬ tcb n c m (m2 k) = -2 := fun e => h2.mp e h0
    by_cases h4 : bo c m (nextEq m (m2 k) 0 n.toNat) = bo c2 m2 k
    · rw [tcN_n (fun h9 => h9.2 h4), if_neg (fun h9 => h9.2 (by rw [e1]; exact h4)), Nat.add_zero]
    · rw [tcN_y ⟨h0, h4⟩, if_pos ⟨h3, by rw [e1]; exact h4⟩]
  · rw [tcN_n (fun h9 => h0 h9.1), if_neg (fun h9 => h9.1 (h2.mpr h0)), Nat.add_zero]
end
section
/-! the class: what a draft's places had for bonds, kept beside the draft -/
noncomputable def cw_Qu (A0 : pm_H) (g : pm_G) (K nn dn : Nat) (q : Nat → Nat) (P : Option Value → (Nat → Int32) → (Nat → Nat → Int32) → (Nat → Int32) → (Nat → Nat → Int32) → Prop) : Option Value → pm_H → Prop := fun r A' => ∃ (w2 : Nat → Int32) (e2 : Nat → Nat → Int32) (v2 : Nat → Int32) (f2 : Nat → Nat → Int32), A' = cw A0 g K nn dn q w2 e2 v2 f2 ∧ cw_I K nn dn q w2 e2 ∧ cw_S v2 f2 ∧ P r w2 e2 v2 f2
theorem bo_l {c m a : Nat → Int32} {n p : Int} (h2 : 0 ≤ p → p < n → (a p.toNat).toInt = lastEq c (c p.toNat) p.toNat) (hp : 0 ≤ p ∧ p < n) {r : Int32} (hr : r = nmA m n (a p.toNat).toInt) : r = bo c m p := by
  have h1 := lastEq_lt c (c p.toNat) p.toNat
  have h3 := h2 hp.1 hp.2
  subst hr; unfold bo
  rw [h3]
  by_cases h : 0 ≤ lastEq c (c p.toNat) p.toNat
  · rw [nmA_y (by omega), nmA_y (by omega)]
  · rw [nmA_n (by omega), nmA_n (by omega)]
noncomputable def TB (w : Nat → Int32) (e f : Nat → Nat → Int32) (o : Nat) (n : Int) (c m : Nat → Int32) : Prop := ∀ i : Nat, (i : Int) < (w o).toInt → f 12 i = tcb n c m (e (o + 2) i)
theorem TB_app {w w2 : Nat → Int32} {e f e2 f2 : Nat → Nat → Int32} {o : Nat} {n : Int} {c m : Nat → Int32} {x b : Int32} (h : TB w e f o n c m) (h0 : 0 ≤ (w o).toInt) (hw : (w2 o).toInt = (w o).toInt + 1) (he : e2 (o + 2) = upd (e (o + 2)) (w o).toInt.toNat x) (hf : f2 12 = upd (f 12) (w o).toInt.toNat b) (hb : b = tcb n c m x) : TB w2 e2 f2 o n c m := fun i hi => by
  rw [he, hf]
  by_cases e1 : i = (w o).toInt.toNat
  · rw [e1, pk_us, pk_us]; exact hb
  · rw [pk_un e1, pk_un e1]; exact h i (by omega)
/-- behind some of an edit's steps: the row before it stands, the draft's bonds are told -/
noncomputable def TQ (w : Nat → Int32) (e : Nat → Nat → Int32) (nn : Nat) (w1 : Nat → Int32) (e1 f1 : Nat → Nat → Int32) (dn : Nat) : Prop := (nn : Int) = 40 + 4 * ((w 0).toInt % 41) → UQ (w nn).toInt (e (nn + 2)) → bd (w nn) (e (nn + 1)) (e (nn + 3)) → (∀ i : Nat, (i : Int) < (w nn).toInt → (e (nn + 2) i).toInt < (w 1).toInt) → nn ≠ dn ∧ w1 nn = w nn ∧ e1 (nn + 1) = e (nn + 1) ∧ e1 (nn + 2) = e (nn + 2) ∧ e1 (nn + 3) = e (nn + 3) ∧ (w 1).toInt ≤ (w1 1).toInt ∧ TB w1 e1 f1 dn (w nn).toInt (e (nn + 1)) (e (nn + 2))
theorem TQ_b {w : Nat → Int32} {e : Nat → Nat → Int32} {K K2 nn dn : Nat} {w1 : Nat → Int32} {e1 f1 : Nat → Nat → Int32} (ho : cw_ro K nn) (ho2 : cw_ro K2 dn) (hd : (dn : Int) = 40 + 4 * (((w 0).toInt + 1) % 41)) (fr : ∀ i9, 35 ≤ i9 → i9 < 40 + 4 * K → (i9 < dn ∨ dn + 4 ≤ i9) → w1 i9 = w i9 ∧ e1 i9 = e i9) (hw : w1 1 = w 1) (hz : (w1 dn).toInt = 0) : TQ w e nn w1 e1 f1 dn := fun h1 _ _ _ => by
  unfold cw_ro at ho ho2
  have a0 : nn ≠ dn := by omega
  exact ⟨a0, (fr nn (by omega) (by omega) (by omega)).1, (fr (nn + 1) (by omega) (by omega) (by omega)).2, (fr (nn + 2) (by omega) (by omega) (by omega)).2, (fr (nn + 3) (by omega) (by omega) (by omega)).2, by rw [hw]; exact Int.le_refl _, fun i hi => by omega⟩
theorem TQ_k {w : Nat → Int32} {e : Nat → Nat → Int32} {K nn dn : Nat} {w1 w2 : Nat → Int32} {e1 f1 e2 f2 : Nat → Nat → Int32} (hT : TQ w e nn w1 e1 f1 dn) (ho : cw_ro K nn) (ho2 : cw_ro K dn) (fr : ∀ i9, 35 ≤ i9 → (i9 < dn ∨ dn + 4 ≤ i9) → w2 i9 = w1 i9 ∧ e2 i9 = e1 i9) (hw : (w1 1).toInt ≤ (w2 1).toInt) (ht : nn ≠ dn → UQ (w1 nn).toInt (e1 (nn + 2)) → bd (w1 nn) (e1 (nn + 1)) (e1 (nn + 3)) → TB w1 e1 f1 dn (w1 nn).toInt (e1 (nn + 1)) (e1 (nn + 2)) → TB w2 e2 f2 dn (w1 nn).toInt (e1 (nn + 1)) (e1 (nn + 2))) : TQ w e nn w2 e2 f2 dn := fun h1 h2 h3 h4 => by
  obtain ⟨a0, a1, a2, a3, a4, a5, a6⟩ := hT h1 h2 h3 h4
  unfold cw_ro at ho ho2
  rw [a1, a2, a3, a4] at ht
  exact ⟨a0, (fr nn (by omega) (by omega)).1.trans a1, (fr (nn + 1) (by omega) (by omega)).2.trans a2, (fr (nn + 2) (by omega) (by omega)).2.trans a3, (fr (nn + 3) (by omega) (by omega)).2.trans a4, by omega, ht a0 h2 h3 a6⟩
theorem TQ_a {w : Nat → Int32} {e : Nat → Nat → Int32} {K nn dn : Nat} {w1 w2 : Nat → Int32} {e1 f1 e2 f2 : Nat → Nat → Int32} (hT : TQ w e nn w1 e1 f1 dn) (ho : cw_ro K nn) (ho2 : cw_ro K dn) (fr : ∀ i9, 35 ≤ i9 → (i9 < dn ∨ dn + 4 ≤ i9) → w2 i9 = w1 i9 ∧ e2 i9 = e1 i9) (hw : (w1 1).toInt ≤ (w2 1).toInt) (ht : ∀ (n : Int) (c m : Nat → Int32), (∀ i : Nat, (i : Int) < n → ¬ m i = w1 1) → TB w1 e1 f1 dn n c m → TB w2 e2 f2 dn n c m) : TQ w e nn w2 e2 f2 dn := fun h1 h2 h3 h4 => by
  obtain ⟨a0, a1, a2, a3, a4, a5, a6⟩ := hT h1 h2 h3 h4
  unfold cw_ro at ho ho2
  exact ⟨a0, (fr nn (by omega) (by omega)).1.trans a1, (fr (nn + 1) (by omega) (by omega)).2.trans a2, (fr (nn + 2) (by omega) (by omega)).2.trans a3, (fr (nn + 3) (by omega) (by omega)).2.trans a4, by omega, ht _ _ _ (fun i hi e9 => by have := h4 i hi; rw [e9] at this; omega) a6⟩
end
section
/-! names are told apart and below the next one, behind every edit -/
noncomputable def UL (L : List pl_P) (g : Int) : Prop := (L.map Prod.snd).Nodup ∧ ∀ p ∈ L, p.2.toInt < g
theorem UL_perm {L M : List pl_P} {g : Int} (h : M.Perm L) (u : UL L g) : UL M g := ⟨((h.map Prod.snd).nodup_iff).mpr u.1, fun p hp => u.2 p (h.mem_iff.mp hp)⟩
theorem UL_sub {L M : List pl_P} {g : Int} (h : M.Sublist L) (u : UL L g) : UL M g := ⟨u.1.sublist (h.map Prod.snd), fun p hp => u.2 p (h.subset hp)⟩
theorem UL_nm {L M : List pl_P} {g : Int} (h : M.map Prod.snd = L.map Prod.snd) (u : UL L g) : UL M g := ⟨by rw [h]; exact u.1, fun p hp => by
  have h1 : p.2 ∈ M.map Prod.snd := List.mem_map.mpr ⟨p, hp, rfl⟩
  rw [h] at h1
  obtain ⟨q, hq, e⟩ := List.mem_map.mp h1
  rw [← e]; exact u.2 q hq⟩
theorem UL_mono {L : List pl_P} {g k : Int} (u : UL L g) (h : g ≤ k) : UL L k := ⟨u.1, fun p hp => by have := u.2 p hp; omega⟩
theorem UL_app {A B : List pl_P} {g k : Int} (a : UL A g) (b : UL B k) (hb : ∀ p ∈ B, g ≤ p.2.toInt) (hg : g ≤ k) : UL (A ++ B) k := by
  refine ⟨?_, fun p hp => ?_⟩
  · rw [List.map_append]
    refine List.pairwise_append.mpr ⟨a.1, b.1, fun x hx y hy e => ?_⟩
    obtain ⟨p, hp, e1⟩ := List.mem_map.mp hx
    obtain ⟨q, hq, e2⟩ := List.mem_map.mp hy
    have h1 := a.2 p hp
    have h2 := hb q hq
    rw [e1, e] at h1
    rw [e2] at h2
    omega
  · rcases List.mem_append.mp hp with h | h
    · have := a.2 p h; omega
    · exact b.2 p h
theorem nw_UL : ∀ (cs : List Int32) (g : Int32), 0 ≤ g.toInt → g.toInt + (cs.length : Int) < 2147483647 → UL (nw_l g cs) (g.toInt + (cs.length : Int)) ∧ ∀ p ∈ nw_l g cs, g.toInt ≤ p.2.toInt
  | [], g, _, _ => ⟨⟨List.nodup_nil, fun p hp => absurd hp List.not_mem_nil⟩, fun p hp => absurd hp List.not_mem_nil⟩
  | c :: r, g, h0, h1 => by
    have hl : ((c :: r).length : Int) = (r.length : Int) + 1 := by simp
    have hr := pm_rng g
    have h2 : (g + 1).toInt = g.toInt + 1 := pm_addc g 1 1 rfl (by omega) (by omega)
    have ih := nw_UL r (g + 1) (by omega) (by omega)
    rw [h2] at ih
    have hm : ∀ p ∈ nw_l g (c :: r), p = (c, g) ∨ p ∈ nw_l (g + 1) r := fun p hp => List.mem_cons.mp hp
    refine ⟨⟨?_, fun p hp => ?_⟩, fun p hp => ?_⟩
    · show (g :: (nw_l (g + 1) r).map Prod.snd).Nodup
      refine List.nodup_cons.mpr ⟨fun hx => ?_, ih.1.1⟩
      obtain ⟨p, hp, e1⟩ := List.mem_map.mp hx
      have := ih.2 p hp
      rw [e1] at this
      omega
    · rcases hm p hp with h | h
      · rw [h]; show g.toInt < _; omega
      · have := ih.1.2 p h; omega
    · rcases hm p hp with h | h
      · rw [h]; show g.toInt ≤ g.toInt; omega
      · have := ih.2 p h; omega
theorem si_3 {L : List pl_P} {a b : Int} (h0 : 0 ≤ a) (h1 : a ≤ b) (h2 : b ≤ (L.length : Int)) : si L 0 a ++ si L a b ++ si L b L.length = L := by
  rw [← si_app (L := L) (a := 0) (m := a) (b := b) (by omega) h0 h1, ← si_app (L := L) (a := 0) (m := b) (b := L.length) (by omega) (by omega) h2, si_all]
theorem UL_cut {L : List pl_P} {l r : Int32} {g : Int} (h : UL L g) : UL ((ed_cut L l r).getD L) g := by
  unfold ed_cut
  split
  · rename_i hc
    show UL (si L 0 l.toInt ++ si L (r.toInt + 1) L.length) g
    have e := si_3 (L := L) (a := l.toInt) (b := r.toInt + 1) (by omega) (by omega) (by omega)
    refine UL_sub ?_ (e.symm ▸ h)
    exact List.Sublist.append (List.sublist_append_left _ _) (List.Sublist.refl _)
  · exact h
theorem pm_1 {α : Type} (A B C D : List α) : (A ++ C ++ B ++ D).Perm (A ++ B ++ C ++ D) := by
  refine List.Perm.append_right D ?_
  rw [List.append_assoc, List.append_assoc]
  exact List.Perm.append_left A List.perm_append_comm
theorem UL_shift {L : List pl_P} {l r n : Int32} {g : Int} (h : UL L g) : UL ((ed_shift L l r n).getD L) g := by
  unfold ed_shift
  split
  · rename_i hc
    show UL (si L 0 l.toInt ++ si L (l.toInt + n.toInt) (r.toInt + 1) ++ si L l.toInt (l.toInt + n.toInt) ++ si L (r.toInt + 1) L.length) g
    refine UL_perm (pm_1 _ _ _ _) ?_
    rw [List.append_assoc (si L 0 l.toInt), ← si_app (L := L) (a := l.toInt) (m := l.toInt + n.toInt) (b := r.toInt + 1) (by omega) (by omega) (by omega), si_3 (by omega) (by omega) (by omega)]
    exact h
  · exact h
theorem UL_swl {L : List pl_P} {a b c d : Int} {g : Int} (h : UL L g) (h0 : 0 ≤ a ∧ a ≤ b ∧ b < c ∧ c ≤ d ∧ d < (L.length : Int)) : UL (sw_l L a b c d) g := by
  unfold sw_l
  have p1 : (si L c (d + 1) ++ si L (b + 1) c ++ si L a (b + 1)).Perm (si L a (b + 1) ++ si L (b + 1) c ++ si L c (d + 1)) := by
    refine List.Perm.trans List.perm_append_comm ?_
    rw [List.append_assoc]
    exact List.Perm.append_left _ List.perm_append_comm
  have p2 : (si L 0 a ++ si L c (d + 1) ++ si L (b + 1) c ++ si L a (b + 1) ++ si L (d + 1) L.length).Perm (si L 0 a ++ (si L a (b + 1) ++ si L (b + 1) c ++ si L c (d + 1)) ++ si L (d + 1) L.length) := by
    refine List.Perm.append_right _ ?_
    rw [List.append_assoc, List.append_assoc, ← List.append_assoc (si L c (d + 1))]
    exact List.Perm.append_left _ p1
  refine UL_perm p2 ?_
  rw [← si_app (L := L) (a := a) (m := b + 1) (b := c) (by omega) (by omega) (by omega), ← si_app (L := L) (a := a) (m := c) (b := d + 1) (by omega) (by omega) (by omega), si_3 (by omega) (by omega) (by omega)]
  exact h
theorem UL_swap {L : List pl_P} {l r f t : Int32} {g : Int} (h : UL L g) : UL ((ed_swap L l r f t).getD L) g := by
  unfold ed_swap
  split
  · rename_i hc
    show UL (if r.toInt < f.toInt then sw_l L l.toInt r.toInt f.toInt t.toInt else sw_l L f.toInt t.toInt l.toInt r.toInt) g
    split
    · exact UL_swl h (by omega)
    · exact UL_swl h (by omega)
  · exact h
theorem UL_turn {L : List pl_P} {l r : Int32} {g : Int} (h : UL L g) : UL ((ed_turn L l r).getD L) g := by
  unfold ed_turn
  split
  · rename_i hc
    show UL (si L 0 l.toInt ++ (si L l.toInt (r.toInt + 1)).reverse ++ si L (r.toInt + 1) L.length) g
    refine UL_perm (List.Perm.append_right _ (List.Perm.append_left _ (List.reverse_perm _))) ?_
    rw [si_3 (by omega) (by omega) (by omega)]
    exact h
  · exact h
theorem UL_rc {L : List pl_P} {l r : Int} {q : Int32 → Int32} {g : Int} (h : UL L g) (h0 : 0 ≤ l ∧ l ≤ r + 1 ∧ r < (L.length : Int)) : UL (rc_l L l r q) g := by
  refine UL_nm ?_ h
  unfold rc_l
  have e := congrArg (List.map Prod.snd) (si_3 (L := L) (a := l) (b := r + 1) (by omega) (by omega) (by omega))
  rw [← e, List.map_append, List.map_append, List.map_append, List.map_append, List.map_map]
  rfl
theorem UL_paint {L : List pl_P} {l r c : Int32} {g : Int} (h : UL L g) : UL ((ed_paint L l r c).getD L) g := by
  unfold ed_paint
  split
  · rename_i hc
    show UL (rc_l L l.toInt r.toInt (fun _ => c)) g
    exact UL_rc h (by omega)
  · exact h
theorem UL_mp {L : List pl_P} {q : Int32 → Int32} {g : Int} (h : UL L g) : UL (L.map (fun p => (q p.1, p.2))) g := UL_nm (by rw [List.map_map]; rfl) h
theorem UL_merge {L : List pl_P} {a b : Int32} {g : Int} (h : UL L g) : UL ((ed_merge L a b).getD L) g := by
  unfold ed_merge
  split
  · exact UL_mp (q := fun c => if c = a then b else c) h
  · exact h
theorem UL_exch {L : List pl_P} {a b : Int32} {g : Int} (h : UL L g) : UL ((ed_exch L a b).getD L) g := by
  unfold ed_exch
  split
  · exact UL_mp (q := fun c => if c = a then b else if c = b then a else c) h
  · exact h
theorem UL_in {A X C : List pl_P} {g k : Int} (h : UL (A ++ C) g) (x : UL X k) (hx : ∀ p ∈ X, g ≤ p.2.toInt) (hg : g ≤ k) : UL (A ++ X ++ C) k := by
  refine UL_perm ?_ (UL_app h x hx hg)
  rw [List.append_assoc, List.append_assoc]
  exact List.Perm.append_left _ List.perm_append_comm
theorem si_2 {L : List pl_P} {a : Int} (h0 : 0 ≤ a) (h2 : a ≤ (L.length : Int)) : si L 0 a ++ si L a L.length = L := by
  rw [← si_app (L := L) (a := 0) (m := a) (b := L.length) (by omega) h0 h2, si_all]
theorem UL_insert {L : List pl_P} {g p c : Int32} (h : UL L g.toInt) (hg : 0 ≤ g.toInt) : UL ((ed_insert L g p c).getD L) (g.toInt + edn (ed_insert L g p c) * 1) := by
  unfold ed_insert
  split
  · rename_i hc
    have h1 := nw_UL [c] g hg (by simp; omega)
    show UL (si L 0 p.toInt ++ nw_l g [c] ++ si L p.toInt L.length) (g.toInt + 1)
    exact UL_in (g := g.toInt) (by rw [si_2 (by omega) (by omega)]; exact h) h1.1 h1.2 (by omega)
  · exact UL_mono h (by show _ ≤ _ + (0 : Int) * 1; omega)
theorem UL_copy {L : List pl_P} {g l r p : Int32} (h : UL L g.toInt) (hg : 0 ≤ g.toInt) : UL ((ed_copy L g l r p).getD L) (g.toInt + edn (ed_copy L g l r p) * (r.toInt - l.toInt + 1)) := by
  unfold ed_copy
  split
  · rename_i hc
    have hk := si_len (L := L) (a := l.toInt) (b := r.toInt + 1) (by omega) (by omega) (by omega)
    have h1 := nw_UL ((si L l.toInt (r.toInt + 1)).map Prod.fst) g hg (by rw [List.length_map]; omega)
    rw [List.length_map] at h1
    show UL (si L 0 p.toInt ++ nw_l g ((si L l.toInt (r.toInt + 1)).map Prod.fst) ++ si L p.toInt L.length) (g.toInt + 1 * (r.toInt - l.toInt + 1))
    exact UL_mono (UL_in (g := g.toInt) (by rw [si_2 (by omega) (by omega)]; exact h) h1.1 h1.2 (by omega)) (by omega)
  · exact UL_mono h (by show _ ≤ _ + (0 : Int) * _; omega)
theorem UL_draw {L : List pl_P} {g s n k : Int32} (h : UL L g.toInt) (hg : 0 ≤ g.toInt) : UL ((ed_draw L g s n k).getD L) (g.toInt + edn (ed_draw L g s n k) * n.toInt) := by
  unfold ed_draw
  split
  · rename_i hc
    have h1 := nw_UL (dr_l s.toInt k.toInt n.toInt.toNat) g hg (by rw [dr_len]; omega)
    rw [dr_len] at h1
    show UL (L ++ nw_l g (dr_l s.toInt k.toInt n.toInt.toNat)) (g.toInt + 1 * n.toInt)
    exact UL_mono (UL_app h h1.1 h1.2 (by omega)) (by omega)
  · exact UL_mono h (by show _ ≤ _ + (0 : Int) * _; omega)
theorem nd_e : ∀ {A : List pl_P}, (A.map Prod.snd).Nodup → ∀ p ∈ A, ∀ q ∈ A, p.2 = q.2 → p = q
  | [], _, p, hp, _, _, _ => absurd hp List.not_mem_nil
  | x :: r, h, p, hp, q, hq, e => by
    have h1 := List.nodup_cons.mp (show (x.2 :: r.map Prod.snd).Nodup from h)
    rcases List.mem_cons.mp hp with a | a
    · rcases List.mem_cons.mp hq with b | b
      · rw [a, b]
      · exact absurd (List.mem_map.mpr ⟨q, b, by rw [← e, a]⟩) h1.1
    · rcases List.mem_cons.mp hq with b | b
      · exact absurd (List.mem_map.mpr ⟨p, a, by rw [e, b]⟩) h1.1
      · exact nd_e h1.2 p a q b e
theorem st_mem {A : List pl_P} : ∀ (c : Nat) (p : pl_P), p ∈ st_l A c → p ∈ A ∧ p.1.toInt < (c : Int)
  | 0, p, h => absurd h List.not_mem_nil
  | c + 1, p, h => by
    rcases List.mem_append.mp (show p ∈ st_l A c ++ A.filter (fun p => decide (p.1.toInt = (c : Int))) from h) with a | a
    · have := st_mem c p a
      exact ⟨this.1, by omega⟩
    · have h1 := List.mem_filter.mp a
      have h2 := of_decide_eq_true h1.2
      exact ⟨h1.1, by omega⟩
theorem st_nd {A : List pl_P} (h : (A.map Prod.snd).Nodup) : ∀ c : Nat, ((st_l A c).map Prod.snd).Nodup
  | 0 => List.nodup_nil
  | c + 1 => by
    show ((st_l A c ++ A.filter (fun p => decide (p.1.toInt = (c : Int)))).map Prod.snd).Nodup
    rw [List.map_append]
    refine List.pairwise_append.mpr ⟨st_nd h c, h.sublist (List.filter_sublist.map Prod.snd), fun x hx y hy e => ?_⟩
    obtain ⟨p, hp, e1⟩ := List.mem_map.mp hx
    obtain ⟨q, hq, e2⟩ := List.mem_map.mp hy
    have h1 := st_mem c p hp
    have h2 := List.mem_filter.mp hq
    have h3 := of_decide_eq_true h2.2
    have h4 := nd_e h p h1.1 q h2.1 (by rw [e1, e2, e])
    rw [h4] at h1
    omega
theorem UL_sort {L : List pl_P} {l r : Int32} {g : Int} (h : UL L g) : UL ((ed_sort L l r).getD L) g := by
  unfold ed_sort
  split
  · rename_i hc
    show UL (si L 0 l.toInt ++ st_l (si L l.toInt (r.toInt + 1)) 24 ++ si L (r.toInt + 1) L.length) g
    have e := si_3 (L := L) (a := l.toInt) (b := r.toInt + 1) (by omega) (by omega) (by omega)
    have u := h
    rw [← e] at u
    obtain ⟨u1, u2⟩ := u
    rw [List.map_append, List.map_append] at u1
    have v1 := List.pairwise_append.mp u1
    have v2 := List.pairwise_append.mp v1.1
    have sb : ∀ x ∈ (st_l (si L l.toInt (r.toInt + 1)) 24).map Prod.snd, x ∈ (si L l.toInt (r.toInt + 1)).map Prod.snd := fun x hx => by
      obtain ⟨p, hp, e1⟩ := List.mem_map.mp hx
      exact List.mem_map.mpr ⟨p, (st_mem 24 p hp).1, e1⟩
    refine ⟨?_, fun p hp => ?_⟩
    · rw [List.map_append, List.map_append]
      refine List.pairwise_append.mpr ⟨List.pairwise_append.mpr ⟨v2.1, st_nd v2.2.1 24, fun x hx y hy => v2.2.2 x hx y (sb y hy)⟩, v1.2.1, fun x hx y hy => ?_⟩
      rcases List.mem_append.mp hx with a | a
      · exact v1.2.2 x (List.mem_append.mpr (Or.inl a)) y hy
      · exact v1.2.2 x (List.mem_append.mpr (Or.inr (sb x a))) y hy
    · refine u2 p ?_
      rcases List.mem_append.mp hp with a | a
      · rcases List.mem_append.mp a with b | b
        · exact List.mem_append.mpr (Or.inl (List.mem_append.mpr (Or.inl b)))
        · exact List.mem_append.mpr (Or.inl (List.mem_append.mpr (Or.inr (st_mem 24 p b).1)))
      · exact List.mem_append.mpr (Or.inr a)
  · exact h
theorem UL_UQ {n : Int32} {c m : Nat → Int32} {L : List pl_P} {g : Int} (h : rp n c m L) (h0 : nm0 L) (u : UL L g) : UQ n.toInt m ∧ ∀ i : Nat, (i : Int) < n.toInt → (m i).toInt < g := by
  have hl := h.1
  have key : ∀ i j : Nat, i < j → j < L.length → ¬ m i = m j := fun i j hij hj e => by
    have h1 := List.pairwise_iff_getElem.mp u.1 i j (by rw [List.length_map]; omega) (by rw [List.length_map]; omega) hij
    rw [List.getElem_map, List.getElem_map, ← (h.2 i (by omega)).2, ← (h.2 j hj).2] at h1
    exact h1 e
  refine ⟨⟨fun i j hi hj e => ?_, fun i hi => ?_⟩, fun i hi => ?_⟩
  · by_cases a : i < j
    · exact absurd e (key i j a (by omega))
    · by_cases b : j < i
      · exact absurd e.symm (key j i b (by omega))
      · omega
  · rw [(h.2 i (by omega)).2]; exact h0 _ (List.getElem_mem _)
  · rw [(h.2 i (by omega)).2]; exact u.2 _ (List.getElem_mem _)
end
section
/-! colours by their bits: the k-th, those with more than a part -/
noncomputable def bf (s : Int32) (j : Nat) : Int32 := if bt s j = true then 1 else 0
theorem bf_1 {s : Int32} {j : Nat} : bf s j = 1 ↔ bt s j = true := by
  unfold bf
  by_cases h : bt s j = true
  · rw [if_pos h]; exact ⟨fun _ => h, fun _ => rfl⟩
  · rw [if_neg h]; exact ⟨fun e => absurd e (by decide), fun e => absurd e h⟩
theorem an_1 {s c : Int32} (h : 0 ≤ c.toInt ∧ c.toInt ≤ 31) : s &&& ((1 : Int32) <<< (c &&& 31)) = 0 ↔ bt s c.toInt.toNat = false := by
  constructor
  · intro e
    have h1 := b_and s ((1 : Int32) <<< (c &&& 31)) c.toInt.toNat
    rw [e, b_0, b_one h (by omega), decide_eq_true rfl, Bool.and_true] at h1
    exact h1.symm
  · intro e
    refine b_ext (fun i hi => ?_)
    rw [b_and, b_one h hi, b_0]
    by_cases q : i = c.toInt.toNat
    · rw [q, e]; rfl
    · rw [decide_eq_false q, Bool.and_false]
theorem by1 {s c : Int32} (h : 0 ≤ c.toInt ∧ c.toInt ≤ 31) (e : ¬ s &&& ((1 : Int32) <<< (c &&& 31)) = 0) : bf s c.toInt.toNat = 1 := by
  refine bf_1.mpr ?_
  cases q : bt s c.toInt.toNat with
  | true => rfl
  | false => exact absurd ((an_1 h).mpr q) e
end
section
/-! two colours that stand nearest -/
theorem nextEq_is {c : Nat → Int32} {x : Int32} : ∀ n k : Nat, 0 ≤ nextEq c x k n → c (nextEq c x k n).toNat = x
  | 0, k, h => absurd (show (0 : Int) ≤ -1 from h) (by decide)
  | n + 1, k, h => by
    by_cases q : c k = x
    · have e : nextEq c x k (n + 1) = (k : Int) := if_pos q
      rw [e]; exact q
    · have e : nextEq c x k (n + 1) = nextEq c x (k + 1) n := if_neg q
      rw [e] at h ⊢; exact nextEq_is n (k + 1) h
end
section
section
variable {l : Launch} {g : pm_G} {A0 : pm_H} {K nn dn : Nat} {q : Nat → Nat} {w : Nat → Int32} {e : Nat → Nat → Int32} {v : Nat → Int32} {f : Nat → Nat → Int32}
set_option maxRecDepth 100000 in
set_option maxHeartbeats 2000000 in
theorem F_X7_nameAt (hI : cw_I K nn dn q w e) (hs : cw_S v f) {o0 : Nat} (ho0 : cw_ro K o0) (x1 : Int32)  : pm_Mt l g 21 1 0 0 [.ref (q o0), .int x1] (cw A0 g K nn dn q w e v f) (md_Qp (cw A0 g K nn dn q w e v f) (fun r => r = nmA (e (o0 + 2)) (w o0).toInt x1.toInt)) := by
  refine mt_X7_nameAt rfl (fun J hC => ?_)
  have ro_nn : cw_ro K nn := hI.2.1.2.1
  have ro_dn : cw_ro K dn := hI.2.1.2.2.1
  have hu1 := hI.2.1
  unfold cw_W at hu1
  have rg_x1 := pm_rng x1
  have zz0 := cw_sz hI ho0
  refine hC.1 0 0 _ _ rfl _ _ _ _ _ ?_
  refine And.intro (Exists.intro _ (cw_ro_o hI.1 ho0)) (Exists.intro _ (Exists.intro _ (Exists.intro _ (Exists.intro _ (And.intro (c_X7_has hI hs ho0 x1 ) (And.intro rfl (fun r9 A9 h9 => ?_)))))))
  rcases h9 with ⟨y2, rfl, rfl, ⟨rfl, by2⟩ | ⟨rfl, by2⟩⟩
  · skip
    have k1 : (1 : Int32).toInt = 1 := rfl
    refine And.intro (fun c9 => absurd c9 (by decide)) (fun _ => ?_)
    refine Exists.intro _ (And.intro (cw_ro_o hI.1 ho0) ?_)
    refine Exists.intro _ (Exists.intro _ (And.intro (Or.inl (cw_ro_2 hI.1 ho0)) (And.intro (by omega) ?_)))
    refine hC.1 2 18 _ _ rfl _ _ _ _ _ ?_
    exact ⟨rfl, fun e9 => absurd e9 (by decide), rfl, (e (o0 + 2) (x1).toInt.toNat), rfl, rfl, by first | (exact (nmA_y (by omega)).symm) | (exact (nmA_n (by omega)).symm)⟩
  · skip
    have k0 : (0 : Int32).toInt = 0 := rfl
    refine And.intro (fun _ => ?_) (fun c9 => absurd c9 (by decide))
    refine hC.1 1 17 _ _ rfl _ _ _ _ _ ?_
    have km1 : (-1 : Int32).toInt = -1 := rfl
    refine hC.1 2 18 _ _ rfl _ _ _ _ _ ?_
    exact ⟨rfl, fun e9 => absurd e9 (by decide), rfl, (-1 : Int32), rfl, rfl, by first | (exact (nmA_y (by omega)).symm) | (exact (nmA_n (by omega)).symm)⟩

end
end
section
section
variable {l : Launch} {g : pm_G} {A0 : pm_H} {h : Nat} {q : Nat → Nat}
set_option maxRecDepth 100000 in
set_option maxHeartbeats 2000000 in
theorem F_X11_bondOf (D : md_D h q) (v : Nat → Int32) (f : Nat → Nat → Int32) (hv : md_V v) (hf : md_F f) (x1 : Int32) (p0 : 0 ≤ x1.toInt ∧ x1.toInt < 160) : pm_Mt l g 173 1 0 0 [.ref h, .int x1] (md A0 g h q v f) (md_Qp (md A0 g h q v f) (fun r => r = bo (f 0) (f 1) x1.toInt)) := by
  refine mt_X11_bondOf rfl (fun J hC => ?_)
  have hv9 := hv
  unfold md_V at hv9
  have rg_x1 := pm_rng x1
  have lt9 := lastEq_lt (f 0) (f 0 x1.toInt.toNat) x1.toInt.toNat
  refine hC.1 0 0 _ _ rfl _ _ _ _ _ ?_
  refine And.intro (Exists.intro _ md_o) (Exists.intro _ (Exists.intro _ (Exists.intro _ (Exists.intro _ (And.intro (c_X11_ahead D v f hv hf x1 (by omega)) (And.intro rfl (fun r9 A9 h9 => ?_)))))))
  obtain ⟨y1, rfl, rfl, by1⟩ := h9
  refine And.intro (fun c2 => ?_) (fun c2 => ?_)
  · skip
    refine hC.1 1 12 _ _ rfl _ _ _ _ _ ?_
    refine Exists.intro _ (And.intro md_o ?_)
    refine And.intro (Exists.intro _ md_o) (Exists.intro _ (Exists.intro _ (Exists.intro _ (Exists.intro _ (And.intro (c_X11_ahead D v f hv hf x1 (by omega)) (And.intro rfl (fun r9 A9 h9 => ?_)))))))
    obtain ⟨y3, rfl, rfl, by3⟩ := h9
    refine Exists.intro _ (Exists.intro _ (And.intro (Or.inl (md_a_names D)) (And.intro (by omega) ?_)))
    refine hC.1 2 22 _ _ rfl _ _ _ _ _ ?_
    exact ⟨rfl, fun e9 => absurd e9 (by decide), rfl, (f 1 (y3).toInt.toNat), rfl, rfl, by first | (exact (bo_n (by omega)).symm) | (exact (bo_y (by omega) (by assumption) (by omega)).symm)⟩
  · skip
    have km1 : (-1 : Int32).toInt = -1 := rfl
    refine hC.1 2 22 _ _ rfl _ _ _ _ _ ?_
    exact ⟨rfl, fun e9 => absurd e9 (by decide), rfl, (-1 : Int32), rfl, rfl, by first | (exact (bo_n (by omega)).symm) | (exact (bo_y (by omega) (by assumption) (by omega)).symm)⟩

end
end
section
section
variable {l : Launch} {g : pm_G} {A0 : pm_H} {K nn dn : Nat} {q : Nat → Nat} {w : Nat → Int32} {e : Nat → Nat → Int32} {v : Nat → Int32} {f : Nat → Nat → Int32}
set_option maxRecDepth 100000 in
set_option maxHeartbeats 2000000 in
theorem F_X2_clear (hI : cw_I K nn dn q w e) (hs : cw_S v f)   : pm_Mt l g 56 1 0 0 [.ref (q 2)] (cw A0 g K nn dn q w e v f) (cw_Qs A0 g K nn dn q w e (fun r v2 f2 => r = none ∧ ((True) ∧ (PAL v2 (f2 14) (e 15) (fun _ => 0) 0 ∧ (∀ i, i ≠ 14 → f2 i = f i) ∧ (∀ i, i = 0 ∨ 5 ≤ i → v2 i = v i))))) := by
  refine mt_X2_clear rfl (fun J hC => ?_)
  have ro_nn : cw_ro K nn := hI.2.1.2.1
  have ro_dn : cw_ro K dn := hI.2.1.2.2.1
  have hu1 := hI.2.1
  unfold cw_W at hu1
  refine hC.1 0 0 _ _ rfl _ _ _ _ _ ?_
  refine Exists.intro _ (And.intro (cw_o2 hI.1) ?_)
  have k0 : (0 : Int32).toInt = 0 := rfl
  refine Exists.intro _ (Exists.intro _ (Exists.intro _ (Exists.intro _ (And.intro (c_fill (cw_a14 hI.1) (by decide) (0 : Int32)) (And.intro rfl (fun r9 A9 h9 => ?_))))))
  obtain ⟨rfl, rfl⟩ := h9
  rw [cw_s14 hI.1]
  obtain ⟨f2, ef2⟩ : ∃ z9, z9 = va_up f 14 (fun j => if j < 24 then (0 : Int32) else f 14 j) := ⟨_, rfl⟩
  rw [← ef2]
  have hs2 : cw_S v f2 := by rw [ef2]; exact cw_S_fr hs _ _ (by decide) (by decide)
  have pf_5 := ef2
  refine Exists.intro _ (And.intro (cw_o2 hI.1) (And.intro rfl ?_))
  rw [cw_p_length hI.1]
  obtain ⟨v3, ev3⟩ : ∃ z9, z9 = upd v 1 (0 : Int32) := ⟨_, rfl⟩
  rw [← ev3]
  have hs3 : cw_S v3 f2 := by rw [ev3]; exact cw_S_v hs2 1 _ (by decide)
  have ev3_0 : (v3 0).toInt = (v 0).toInt := by rw [ev3]; rfl
  have pv_10 := ev3
  refine Exists.intro _ (And.intro (cw_o2 hI.1) (And.intro rfl ?_))
  rw [cw_p_kinds hI.1]
  obtain ⟨v4, ev4⟩ : ∃ z9, z9 = upd v3 2 (0 : Int32) := ⟨_, rfl⟩
  rw [← ev4]
  have hs4 : cw_S v4 f2 := by rw [ev4]; exact cw_S_v hs3 2 _ (by decide)
  have ev4_0 : (v4 0).toInt = (v3 0).toInt := by rw [ev4]; rfl
  have pv_15 := ev4
  refine Exists.intro _ (And.intro (cw_o2 hI.1) (And.intro rfl ?_))
  rw [cw_p_bits hI.1]
  obtain ⟨v5, ev5⟩ : ∃ z9, z9 = upd v4 3 (0 : Int32) := ⟨_, rfl⟩
  rw [← ev5]
  have hs5 : cw_S v5 f2 := by rw [ev5]; exact cw_S_v hs4 3 _ (by decide)
  have ev5_0 : (v5 0).toInt = (v4 0).toInt := by rw [ev5]; rfl
  have pv_20 := ev5
  refine Exists.intro _ (And.intro (cw_o2 hI.1) (And.intro rfl ?_))
  rw [cw_p_mass hI.1]
  obtain ⟨v6, ev6⟩ : ∃ z9, z9 = upd v5 4 (0 : Int32) := ⟨_, rfl⟩
  rw [← ev6]
  have hs6 : cw_S v6 f2 := by rw [ev6]; exact cw_S_v hs5 4 _ (by decide)
  have ev6_0 : (v6 0).toInt = (v5 0).toInt := by rw [ev6]; rfl
  have pv_25 := ev6
  exact ⟨rfl, rfl, v6, f2, rfl, hs6, rfl, by exact True.intro, by exact ⟨PAL_0 (fun x9 h9 => (by rw [pf_5, va_us, if_pos h9])) (by rw [pv_25, pk_un (by decide), pv_20, pk_un (by decide), pv_15, pk_un (by decide), pv_10, pk_us]) (by rw [pv_25, pk_un (by decide), pv_20, pk_un (by decide), pv_15, pk_us]) (by rw [pv_25, pk_un (by decide), pv_20, pk_us]) (by rw [pv_25, pk_us]), fun i9 h9 => (by rw [pf_5, va_un h9]), fun i9 h9 => (by rw [pv_25, pk_un (by omega), pv_20, pk_un (by omega), pv_15, pk_un (by omega), pv_10, pk_un (by omega)])⟩⟩

set_option maxRecDepth 100000 in
set_option maxHeartbeats 2000000 in
theorem F_X2_take (hI : cw_I K nn dn q w e) (hs : cw_S v f) (x1 : Int32) (p0 : 0 ≤ x1.toInt ∧ x1.toInt ≤ 23) : pm_Mt l g 57 0 0 0 [.ref (q 2), .int x1] (cw A0 g K nn dn q w e v f) (cw_Qs A0 g K nn dn q w e (fun r v2 f2 => r = none ∧ ((True) ∧ ((∀ N n, PAL v (f 14) (e 15) N n → n < 1000 → PAL v2 (f2 14) (e 15) (upN N x1.toInt.toNat) (n + 1)) ∧ (∀ i, i ≠ 14 → f2 i = f i) ∧ (∀ i, i = 0 ∨ 5 ≤ i → v2 i = v i))))) := by
  refine mt_X2_take rfl (fun J hC => ?_)
  have ro_nn : cw_ro K nn := hI.2.1.2.1
  have ro_dn : cw_ro K dn := hI.2.1.2.2.1
  have hu1 := hI.2.1
  unfold cw_W at hu1
  have rg_x1 := pm_rng x1
  refine hC.1 0 0 _ _ rfl _ _ _ _ _ ?_
  refine Exists.intro _ (And.intro (cw_o2 hI.1) ?_)
  have k1 : (1 : Int32).toInt = 1 := rfl
  intro m2 em_6
  refine Exists.intro _ (And.intro (cw_o2 hI.1) (And.intro rfl ?_))
  rw [cw_p_length hI.1]
  obtain ⟨v3, ev3⟩ : ∃ z9, z9 = upd v 1 m2 := ⟨_, rfl⟩
  rw [← ev3]
  have hs3 : cw_S v3 f := by rw [ev3]; exact cw_S_v hs 1 _ (by decide)
  have ev3_0 : (v3 0).toInt = (v 0).toInt := by rw [ev3]; rfl
  have pv_7 := ev3
  refine Exists.intro _ (And.intro (cw_o2 hI.1) ?_)
  refine Exists.intro _ (Exists.intro _ (And.intro (Or.inl (cw_a14 hI.1)) (And.intro (by omega) ?_)))
  intro m4 em_18
  refine Exists.intro _ (Exists.intro _ (And.intro (cw_a14 hI.1) (And.intro (by omega) ?_)))
  rw [cw_s14 hI.1]
  obtain ⟨f5, ef5⟩ : ∃ z9, z9 = va_up f 14 (upd (f 14) (x1).toInt.toNat m4) := ⟨_, rfl⟩
  rw [← ef5]
  have hs5 : cw_S v3 f5 := by rw [ef5]; exact cw_S_fr hs3 _ _ (by decide) (by decide)
  have pf_19 := ef5
  refine Exists.intro _ (And.intro (cw_o2 hI.1) ?_)
  refine Exists.intro _ (Exists.intro _ (And.intro (Or.inl (cw_a14 hI.1)) (And.intro (by omega) ?_)))
  refine And.intro (fun c6 => ?_) (fun c6 => ?_)
  · skip
    have dc6 := pm_neI c6
    refine hC.1 1 67 _ _ rfl _ _ _ _ _ ?_
    exact ⟨rfl, rfl, v3, f5, rfl, hs5, rfl, by exact True.intro, by first | (have t9 := PAL_t1 (W := e 15) (k := f 14) (k1 := f5 14) p0 pv_7 em_6 (by rw [pf_19, va_us]) em_18 (by omega) pv_37 em_36 pv_49 pv_64 em_63; exact ⟨t9.1, fun i9 h9 => (by rw [pf_19, va_un h9]), t9.2⟩) | (have t9 := PAL_t2 (W := e 15) (k := f 14) (k1 := f5 14) p0 pv_7 em_6 (by rw [pf_19, va_us]) em_18 (by omega); exact ⟨t9.1, fun i9 h9 => (by rw [pf_19, va_un h9]), t9.2⟩)⟩
  · skip
    have dc6 : ((f5 14 (x1).toInt.toNat)).toInt = ((1 : Int32) : Int32).toInt := congrArg Int32.toInt c6
    refine Exists.intro _ (And.intro (cw_o2 hI.1) ?_)
    intro m7 em_36
    refine Exists.intro _ (And.intro (cw_o2 hI.1) (And.intro rfl ?_))
    rw [cw_p_kinds hI.1]
    obtain ⟨v8, ev8⟩ : ∃ z9, z9 = upd v3 2 m7 := ⟨_, rfl⟩
    rw [← ev8]
    have hs8 : cw_S v8 f5 := by rw [ev8]; exact cw_S_v hs5 2 _ (by decide)
    have ev8_0 : (v8 0).toInt = (v3 0).toInt := by rw [ev8]; rfl
    have pv_37 := ev8
    refine Exists.intro _ (And.intro (cw_o2 hI.1) ?_)
    refine Exists.intro _ (And.intro (cw_o2 hI.1) (And.intro rfl ?_))
    rw [cw_p_bits hI.1]
    obtain ⟨v9, ev9⟩ : ∃ z9, z9 = upd v8 3 ((v8 3) ||| ((1 : Int32) <<< (x1 &&& 31))) := ⟨_, rfl⟩
    rw [← ev9]
    have hs9 : cw_S v9 f5 := by rw [ev9]; exact cw_S_v hs8 3 _ (by decide)
    have ev9_0 : (v9 0).toInt = (v8 0).toInt := by rw [ev9]; rfl
    have pv_49 := ev9
    refine Exists.intro _ (And.intro (cw_o2 hI.1) ?_)
    refine Exists.intro _ (And.intro (cw_o2 hI.1) ?_)
    refine Exists.intro _ (Exists.intro _ (And.intro (Or.inl (cw_a15 hI.1)) (And.intro (by omega) ?_)))
    intro m10 em_63
    refine Exists.intro _ (And.intro (cw_o2 hI.1) (And.intro rfl ?_))
    rw [cw_p_mass hI.1]
    obtain ⟨v11, ev11⟩ : ∃ z9, z9 = upd v9 4 m10 := ⟨_, rfl⟩
    rw [← ev11]
    have hs11 : cw_S v11 f5 := by rw [ev11]; exact cw_S_v hs9 4 _ (by decide)
    have ev11_0 : (v11 0).toInt = (v9 0).toInt := by rw [ev11]; rfl
    have pv_64 := ev11
    refine hC.1 1 67 _ _ rfl _ _ _ _ _ ?_
    exact ⟨rfl, rfl, v11, f5, rfl, hs11, rfl, by exact True.intro, by first | (have t9 := PAL_t1 (W := e 15) (k := f 14) (k1 := f5 14) p0 pv_7 em_6 (by rw [pf_19, va_us]) em_18 (by omega) pv_37 em_36 pv_49 pv_64 em_63; exact ⟨t9.1, fun i9 h9 => (by rw [pf_19, va_un h9]), t9.2⟩) | (have t9 := PAL_t2 (W := e 15) (k := f 14) (k1 := f5 14) p0 pv_7 em_6 (by rw [pf_19, va_us]) em_18 (by omega); exact ⟨t9.1, fun i9 h9 => (by rw [pf_19, va_un h9]), t9.2⟩)⟩

set_option maxRecDepth 100000 in
set_option maxHeartbeats 2000000 in
theorem F_X2_read (hI : cw_I K nn dn q w e) (hs : cw_S v f) {o1 : Nat} (ho1 : cw_ro K o1) (x2 : Int32) (x3 : Int32) (p0 : 0 ≤ x2.toInt ∧ x3.toInt < (w o1).toInt ∧ x2.toInt ≤ x3.toInt + 1) : pm_Mt l g 55 2 0 0 [.ref (q 2), .ref (q o1), .int x2, .int x3] (cw A0 g K nn dn q w e v f) (cw_Qs A0 g K nn dn q w e (fun r v2 f2 => r = none ∧ ((True) ∧ (PAL v2 (f2 14) (e 15) (nc (e (o1 + 1)) x2.toInt.toNat (x3.toInt + 1 - x2.toInt).toNat) (x3.toInt + 1 - x2.toInt) ∧ (∀ i, i ≠ 14 → f2 i = f i) ∧ (∀ i, i = 0 ∨ 5 ≤ i → v2 i = v i))))) := by
  refine mt_X2_read rfl (fun J hC => ?_)
  have ro_nn : cw_ro K nn := hI.2.1.2.1
  have ro_dn : cw_ro K dn := hI.2.1.2.2.1
  have hu1 := hI.2.1
  unfold cw_W at hu1
  have rg_x2 := pm_rng x2
  have rg_x3 := pm_rng x3
  have zz0 := cw_sz hI ho1
  refine hC.1 0 0 _ _ rfl _ _ _ _ _ ?_
  refine And.intro (Exists.intro _ (cw_o2 hI.1)) (Exists.intro _ (Exists.intro _ (Exists.intro _ (Exists.intro _ (And.intro (F_X2_clear hI hs  ) (And.intro rfl (fun r9 A9 h9 => ?_)))))))
  rcases h9 with ⟨v3, f3, rfl, hs3, rfl, by2⟩
  have hc9 := by2.2
  have lp5 : ∀ (n : Nat) (z4_7 : Int32) (v4 : Nat → Int32) (f4 : Nat → Nat → Int32), cw_S v4 f4 → (x2.toInt ≤ z4_7.toInt ∧ z4_7.toInt ≤ x3.toInt + 1) → (PAL v4 (f4 14) (e 15) (nc (e (o1 + 1)) x2.toInt.toNat (z4_7.toInt - x2.toInt).toNat) (z4_7.toInt - x2.toInt)) → ((∀ i, i ≠ 14 → f4 i = f i)) → ((∀ i, i = 0 ∨ 5 ≤ i → v4 i = v i)) → ((200 - z4_7.toInt).toNat : Int) < (n : Int) → J 7 [some (.ref (q 2)), some (.ref (q o1)), some (.int x2), some (.int x3), some (.int z4_7)] [] (cw A0 g K nn dn q w e v4 f4) 0 0 := by
    intro n
    induction n with
    | zero =>
      intro z4_7 v4 f4 hs4 j0_7 j1_7 j2_7 j3_7 j4_7
      omega
    | succ n ih6 =>
      intro z4_7 v4 f4 hs4 j0_7 j1_7 j2_7 j3_7 j4_7
      refine hC.1 1 7 _ _ rfl _ _ _ _ _ ?_
      refine And.intro (fun c7 => ?_) (fun c7 => ?_)
      · skip
        refine hC.1 2 39 _ _ rfl _ _ _ _ _ ?_
        exact ⟨rfl, rfl, v4, f4, rfl, hs4, rfl, by exact True.intro, by have h7 : z4_7.toInt = x3.toInt + 1 := (by omega); rw [h7] at j1_7; exact ⟨j1_7, j2_7, j3_7⟩⟩
      · skip
        refine And.intro (Exists.intro _ (cw_ro_o hI.1 ho1)) (Exists.intro _ (Exists.intro _ (Exists.intro _ (Exists.intro _ (And.intro (c_X7_has hI hs4 ho1 z4_7 ) (And.intro rfl (fun r9 A9 h9 => ?_)))))))
        rcases h9 with ⟨y8, rfl, rfl, ⟨rfl, by8⟩ | ⟨rfl, by8⟩⟩
        · skip
          have k1 : (1 : Int32).toInt = 1 := rfl
          refine And.intro (fun c9 => absurd c9 (by decide)) (fun _ => ?_)
          refine Exists.intro _ (And.intro (cw_ro_o hI.1 ho1) ?_)
          refine Exists.intro _ (Exists.intro _ (And.intro (Or.inl (cw_ro_1 hI.1 ho1)) (And.intro (by omega) ?_)))
          have w10 := cw_col hI ho1 (z4_7).toInt.toNat
          refine And.intro (Exists.intro _ (cw_o2 hI.1)) (Exists.intro _ (Exists.intro _ (Exists.intro _ (Exists.intro _ (And.intro (F_X2_take hI hs4 (e (o1 + 1) (z4_7).toInt.toNat) (by omega)) (And.intro rfl (fun r9 A9 h9 => ?_)))))))
          rcases h9 with ⟨v12, f12, rfl, hs12, rfl, by11⟩
          have ht9 := by11.2
          intro m13 em_33
          try have e13 : m13.toInt = (z4_7).toInt + (1) := by rw [em_33]; exact pm_addc _ _ (1) rfl (by omega) (by omega)
          exact ih6 m13 v12 f12 hs12 (by omega) (by have h8 := ht9.1 _ _ j1_7 (by omega); rw [show (m13.toInt - x2.toInt).toNat = (z4_7.toInt - x2.toInt).toNat + 1 by omega, nc, show x2.toInt.toNat + (z4_7.toInt - x2.toInt).toNat = z4_7.toInt.toNat by omega, show m13.toInt - x2.toInt = z4_7.toInt - x2.toInt + 1 by omega]; exact h8) (by exact fun i9 h9 => (ht9.2.1 i9 h9).trans (j2_7 i9 h9)) (by exact fun i9 h9 => (ht9.2.2 i9 h9).trans (j3_7 i9 h9)) (by omega)
        · skip
          have k0 : (0 : Int32).toInt = 0 := rfl
          refine And.intro (fun _ => ?_) (fun c9 => absurd c9 (by decide))
          refine hC.1 2 39 _ _ rfl _ _ _ _ _ ?_
          exact ⟨rfl, rfl, v4, f4, rfl, hs4, rfl, by exact True.intro, by have h7 : z4_7.toInt = x3.toInt + 1 := (by omega); rw [h7] at j1_7; exact ⟨j1_7, j2_7, j3_7⟩⟩
  exact lp5 (((200 - x2.toInt).toNat : Int)).toNat.succ x2 v3 f3 hs3 (by omega) (by rw [show (x2.toInt - x2.toInt).toNat = 0 by omega, show x2.toInt - x2.toInt = 0 by omega]; exact hc9.1) (by exact hc9.2.1) (by exact hc9.2.2) (by omega)

set_option maxRecDepth 100000 in
set_option maxHeartbeats 2000000 in
theorem F_X10_colourNumber (hI : cw_I K nn dn q w e) (hs : cw_S v f) {o1 : Nat} (ho1 : cw_ro K o1) (x2 : Int32) (x3 : Int32) (p0 : 0 ≤ x2.toInt ∧ x3.toInt < (w o1).toInt ∧ x2.toInt ≤ x3.toInt + 1) : pm_Mt l g 54 3 0 0 [.ref (q 0), .ref (q o1), .int x2, .int x3] (cw A0 g K nn dn q w e v f) (cw_Qs A0 g K nn dn q w e (fun r v2 f2 => ∃ x : Int32, r = some (.int x) ∧ ((True) ∧ (x.toInt = (cntB (sS (e (o1 + 1)) x2.toInt x3.toInt) 24 : Int))))) := by
  refine mt_X10_colourNumber rfl (fun J hC => ?_)
  have ro_nn : cw_ro K nn := hI.2.1.2.1
  have ro_dn : cw_ro K dn := hI.2.1.2.2.1
  have hu1 := hI.2.1
  unfold cw_W at hu1
  have rg_x2 := pm_rng x2
  have rg_x3 := pm_rng x3
  refine hC.1 0 0 _ _ rfl _ _ _ _ _ ?_
  refine Exists.intro _ (And.intro (cw_o0 hI.1) ?_)
  refine And.intro (Exists.intro _ (cw_o2 hI.1)) (Exists.intro _ (Exists.intro _ (Exists.intro _ (Exists.intro _ (And.intro (F_X2_read hI hs ho1 x2 x3 (by omega)) (And.intro rfl (fun r9 A9 h9 => ?_)))))))
  rcases h9 with ⟨v3, f3, rfl, hs3, rfl, by2⟩
  have hr9 := by2.2
  refine Exists.intro _ (And.intro (cw_o0 hI.1) ?_)
  refine Exists.intro _ (And.intro (cw_o2 hI.1) ?_)
  exact ⟨rfl, fun e9 => absurd e9 (by decide), rfl, v3, f3, rfl, hs3, (v3 2), rfl, by exact True.intro, by exact PAL_kd (fun j9 => cw_col hI ho1 j9) hr9.1⟩

end
end
section
section
variable {l : Launch} {g : pm_G} {A0 : pm_H} {h : Nat} {q : Nat → Nat}
set_option maxRecDepth 100000 in
set_option maxHeartbeats 2000000 in
theorem F_X11_bits (A : pm_H) (x0 : Int32)  : pm_Mt l g 207 0 0 0 [.int x0] A (md_Qp A (fun r => r.toInt = (cntB x0 32 : Int))) := by
  refine mt_X11_bits rfl (fun J hC => ?_)
  have rg_x0 := pm_rng x0
  have cl9 := cntB_le x0 32
  refine hC.1 0 0 _ _ rfl _ _ _ _ _ ?_
  have k0 : (0 : Int32).toInt = 0 := rfl
  have lp1 : ∀ (n : Nat) (z1_4 : Int32) (z2_4 : Int32), (0 ≤ z1_4.toInt) → (z1_4.toInt + (cntB z2_4 32 : Int) = (cntB x0 32 : Int)) → (z2_4.toBitVec.toNat : Int) < (n : Int) → J 4 [some (.int x0), some (.int z1_4), some (.int z2_4)] [] A 0 0 := by
    intro n
    induction n with
    | zero =>
      intro z1_4 z2_4 j0_4 j1_4 j2_4
      omega
    | succ n ih2 =>
      intro z1_4 z2_4 j0_4 j1_4 j2_4
      refine hC.1 1 4 _ _ rfl _ _ _ _ _ ?_
      refine And.intro (fun c3 => ?_) (fun c3 => ?_)
      · skip
        have dc3 : (z2_4).toInt = (0 : Int32).toInt := congrArg Int32.toInt c3
        refine hC.1 2 20 _ _ rfl _ _ _ _ _ ?_
        exact ⟨rfl, fun e9 => absurd e9 (by decide), rfl, z1_4, rfl, rfl, by have h8 : cntB z2_4 32 = 0 := (by rw [show z2_4 = 0 by assumption]; exact cntB_z 32); omega⟩
      · skip
        have dc3 := pm_neI c3
        have k1 : (1 : Int32).toInt = 1 := rfl
        intro m4 em_8
        try have e4 : m4.toInt = (z1_4).toInt + (1) := by rw [em_8]; exact pm_addc _ _ (1) rfl (by omega) (by omega)
        intro m5 em_14
        exact ih2 m4 (z2_4 &&& m5) (by omega) (by have h8 := pcB (x := z2_4) (by assumption); rw [← em_14] at h8; omega) (by have h1 := pm_bits_lt (x := z2_4) (by assumption); rw [em_14]; omega)
  exact lp1 ((x0.toBitVec.toNat : Int)).toNat.succ (0 : Int32) x0 (by omega) (by omega) (by omega)

set_option maxRecDepth 100000 in
set_option maxHeartbeats 2000000 in
theorem F_X11_weightOf (D : md_D h q) (v : Nat → Int32) (f : Nat → Nat → Int32) (hv : md_V v) (hf : md_F f) (x1 : Int32)  : pm_Mt l g 211 0 0 0 [.ref h, .int x1] (md A0 g h q v f) (md_Qp (md A0 g h q v f) (fun r => r = msB (f 2) x1 24)) := by
  refine mt_X11_weightOf rfl (fun J hC => ?_)
  have hv9 := hv
  unfold md_V at hv9
  have rg_x1 := pm_rng x1
  refine hC.1 0 0 _ _ rfl _ _ _ _ _ ?_
  have k0 : (0 : Int32).toInt = 0 := rfl
  have lp1 : ∀ (n : Nat) (z2_4 : Int32) (z3_4 : Int32), (0 ≤ z3_4.toInt ∧ z3_4.toInt ≤ 24) → (z2_4 = msB (f 2) x1 z3_4.toInt.toNat) → 200 - z3_4.toInt < (n : Int) → J 4 [some (.ref h), some (.int x1), some (.int z2_4), some (.int z3_4)] [] (md A0 g h q v f) 0 0 := by
    intro n
    induction n with
    | zero =>
      intro z2_4 z3_4 j0_4 j1_4 j2_4
      omega
    | succ n ih2 =>
      intro z2_4 z3_4 j0_4 j1_4 j2_4
      refine hC.1 1 4 _ _ rfl _ _ _ _ _ ?_
      have k24 : (24 : Int32).toInt = 24 := rfl
      refine And.intro (fun c3 => ?_) (fun c3 => ?_)
      · skip
        refine hC.1 4 38 _ _ rfl _ _ _ _ _ ?_
        exact ⟨rfl, fun e9 => absurd e9 (by decide), rfl, z2_4, rfl, rfl, by rw [j1_4, show z3_4.toInt.toNat = 24 by omega]⟩
      · skip
        have k1 : (1 : Int32).toInt = 1 := rfl
        refine And.intro (fun c4 => ?_) (fun c4 => ?_)
        · skip
          have dc4 := pm_neI c4
          refine hC.1 2 29 _ _ rfl _ _ _ _ _ ?_
          refine hC.1 3 30 _ _ rfl _ _ _ _ _ ?_
          intro m5 em_30
          intro m6 em_32
          try have e6 : m6.toInt = (z3_4).toInt + (1) := by rw [em_32]; exact pm_addc _ _ (1) rfl (by omega) (by omega)
          exact ih2 m5 m6 (by omega) (by rw [show m6.toInt.toNat = z3_4.toInt.toNat + 1 by omega, msB]; first | (rw [b_n (x := x1) (c := z3_4) (by omega) (by assumption), if_neg (by decide), em_30, j1_4]) | (rw [b_y1 (x := x1) (c := z3_4) (by omega) (by assumption), if_pos rfl, em_30, j1_4])) (by omega)
        · skip
          have dc4 : (((x1 >>> (z3_4 &&& 31)) &&& (1 : Int32))).toInt = ((1 : Int32) : Int32).toInt := congrArg Int32.toInt c4
          refine Exists.intro _ (And.intro md_o ?_)
          refine Exists.intro _ (Exists.intro _ (And.intro (Or.inl (md_a_weights D)) (And.intro (by omega) ?_)))
          refine hC.1 3 30 _ _ rfl _ _ _ _ _ ?_
          intro m7 em_30
          intro m8 em_32
          try have e8 : m8.toInt = (z3_4).toInt + (1) := by rw [em_32]; exact pm_addc _ _ (1) rfl (by omega) (by omega)
          exact ih2 m7 m8 (by omega) (by rw [show m8.toInt.toNat = z3_4.toInt.toNat + 1 by omega, msB]; first | (rw [b_n (x := x1) (c := z3_4) (by omega) (by assumption), if_neg (by decide), em_30, j1_4]) | (rw [b_y1 (x := x1) (c := z3_4) (by omega) (by assumption), if_pos rfl, em_30, j1_4])) (by omega)
  exact lp1 (200 - (0 : Int32).toInt).toNat.succ (0 : Int32) (0 : Int32) (by omega) (by rfl) (by omega)

end
end
section
/-! rows as they stood behind an edit: the reference's slots -/
noncomputable def rC (f : Nat → Nat → Int32) (i : Int) : Nat → Int32 := fun j => f 12 (160 * (i % 40).toNat + j)
noncomputable def rM (f : Nat → Nat → Int32) (i : Int) : Nat → Int32 := fun j => f 13 (160 * (i % 40).toNat + j)
noncomputable def rN (f : Nat → Nat → Int32) (i : Int) : Int32 := f 14 (i % 40).toNat
noncomputable def rT (f : Nat → Nat → Int32) (i : Int) : Int32 := f 15 (i % 40).toNat
noncomputable def kno (e i : Int) : Prop := 0 ≤ i ∧ i ≤ e ∧ e - 40 < i
theorem cw_rr_f {K : Nat} (q : Nat → Nat) (j : Nat) : (cw_rr K q j = none ∧ K ≤ j) ∨ ∃ o, cw_rr K q j = some (q o) ∧ cw_ro K o ∧ o = 40 + 4 * j := by
  unfold cw_rr
  by_cases h : j < K
  · rw [if_pos h]; exact Or.inr ⟨40 + 4 * j, rfl, ⟨by omega, by omega, by omega⟩, rfl⟩
  · rw [if_neg h]; exact Or.inl ⟨rfl, by omega⟩
end
section
section
variable {l : Launch} {g : pm_G} {A0 : pm_H} {K nn dn : Nat} {q : Nat → Nat} {w : Nat → Int32} {e : Nat → Nat → Int32} {v : Nat → Int32} {f : Nat → Nat → Int32}
set_option maxRecDepth 100000 in
set_option maxHeartbeats 2000000 in
theorem F_X9_behind (hI : cw_I K nn dn q w e) (hs : cw_S v f) (x1 : Int32)  : pm_Mt l g 149 0 0 0 [.ref (q 1), .int x1] (cw A0 g K nn dn q w e v f) (fun r A9 => A9 = (cw A0 g K nn dn q w e v f) ∧ ((r = some .null ∧ ¬ kno (w 0).toInt x1.toInt) ∨ ∃ o9, r = some (.ref (q o9)) ∧ cw_ro K o9 ∧ kno (w 0).toInt x1.toInt ∧ (o9 : Int) = 40 + 4 * (x1.toInt % 41))) := by
  refine mt_X9_behind rfl (fun J hC => ?_)
  have ro_nn : cw_ro K nn := hI.2.1.2.1
  have ro_dn : cw_ro K dn := hI.2.1.2.2.1
  have hu1 := hI.2.1
  unfold cw_W at hu1
  have rg_x1 := pm_rng x1
  refine hC.1 0 0 _ _ rfl _ _ _ _ _ ?_
  refine And.intro (fun c2 => ?_) (fun c2 => ?_)
  · skip
    refine hC.1 1 27 _ _ rfl _ _ _ _ _ ?_
    have k0 : (0 : Int32).toInt = 0 := rfl
    refine hC.1 2 28 _ _ rfl _ _ _ _ _ ?_
    refine And.intro (fun _ => ?_) (fun c9 => absurd c9 (by decide))
    refine hC.1 3 45 _ _ rfl _ _ _ _ _ ?_
    refine hC.1 4 46 _ _ rfl _ _ _ _ _ ?_
    exact ⟨rfl, rfl, rfl, Or.inl ⟨rfl, by unfold kno; omega⟩⟩
  · skip
    refine Exists.intro _ (And.intro (cw_o1 hI.1) ?_)
    refine And.intro (fun c3 => ?_) (fun c3 => ?_)
    · skip
      refine hC.1 1 27 _ _ rfl _ _ _ _ _ ?_
      have k0 : (0 : Int32).toInt = 0 := rfl
      refine hC.1 2 28 _ _ rfl _ _ _ _ _ ?_
      refine And.intro (fun _ => ?_) (fun c9 => absurd c9 (by decide))
      refine hC.1 3 45 _ _ rfl _ _ _ _ _ ?_
      refine hC.1 4 46 _ _ rfl _ _ _ _ _ ?_
      exact ⟨rfl, rfl, rfl, Or.inl ⟨rfl, by unfold kno; omega⟩⟩
    · skip
      refine Exists.intro _ (And.intro (cw_o1 hI.1) ?_)
      have k40 : (40 : Int32).toInt = 40 := rfl
      intro m4 em_19
      try have e4 : m4.toInt = ((w 0)).toInt - (40) := by rw [em_19]; exact pm_subc _ _ (40) rfl (by omega) (by omega)
      refine And.intro (fun c5 => ?_) (fun c5 => ?_)
      · skip
        refine hC.1 1 27 _ _ rfl _ _ _ _ _ ?_
        have k0 : (0 : Int32).toInt = 0 := rfl
        refine hC.1 2 28 _ _ rfl _ _ _ _ _ ?_
        refine And.intro (fun _ => ?_) (fun c9 => absurd c9 (by decide))
        refine hC.1 3 45 _ _ rfl _ _ _ _ _ ?_
        refine hC.1 4 46 _ _ rfl _ _ _ _ _ ?_
        exact ⟨rfl, rfl, rfl, Or.inl ⟨rfl, by unfold kno; omega⟩⟩
      · skip
        have k1 : (1 : Int32).toInt = 1 := rfl
        refine hC.1 2 28 _ _ rfl _ _ _ _ _ ?_
        refine And.intro (fun c9 => absurd c9 (by decide)) (fun _ => ?_)
        refine Exists.intro _ (And.intro (cw_o1 hI.1) ?_)
        have k41 : (41 : Int32).toInt = 41 := rfl
        refine And.intro (by decide) ?_
        intro m6 em_40
        have e6 : 0 ≤ m6.toInt ∧ m6.toInt < 41 ∧ m6.toInt = (x1).toInt % 41 := by rw [em_40]; exact pm_remc _ _ 41 rfl (by omega) (by decide)
        refine Exists.intro _ (Exists.intro _ (And.intro (Or.inl (cw_rows hI.1)) (And.intro (by omega) ?_)))
        rcases cw_rr_f (K := K) q (m6).toInt.toNat with ⟨hr7, hk7⟩ | ⟨o7, hr7, ho7, he7⟩
        · skip
          rw [hr7]
          refine hC.1 4 46 _ _ rfl _ _ _ _ _ ?_
          exact ⟨rfl, rfl, rfl, Or.inl ⟨rfl, by unfold kno; omega⟩⟩
        · skip
          rw [hr7]
          refine hC.1 4 46 _ _ rfl _ _ _ _ _ ?_
          exact ⟨rfl, rfl, rfl, Or.inr ⟨o7, rfl, ho7, by unfold kno; omega, by omega⟩⟩

end
end
section
section
variable {l : Launch} {g : pm_G} {A0 : pm_H} {h : Nat} {q : Nat → Nat}
set_option maxRecDepth 100000 in
set_option maxHeartbeats 2000000 in
theorem F_X11_wasColour (D : md_D h q) (v : Nat → Int32) (f : Nat → Nat → Int32) (hv : md_V v) (hf : md_F f) (x1 : Int32) (x2 : Int32) (p0 : 0 ≤ x1.toInt) (p1 : 0 ≤ x2.toInt ∧ x2.toInt < 160) : pm_Mt l g 228 0 0 0 [.ref h, .int x1, .int x2] (md A0 g h q v f) (md_Qp (md A0 g h q v f) (fun r => r = rC f x1.toInt x2.toInt.toNat ∧ (0 ≤ r.toInt ∧ r.toInt ≤ 23))) := by
  refine mt_X11_wasColour rfl (fun J hC => ?_)
  have hv9 := hv
  unfold md_V at hv9
  have rg_x1 := pm_rng x1
  have rg_x2 := pm_rng x2
  refine hC.1 0 0 _ _ rfl _ _ _ _ _ ?_
  refine Exists.intro _ (And.intro md_o ?_)
  have k160 : (160 : Int32).toInt = 160 := rfl
  have k40 : (40 : Int32).toInt = 40 := rfl
  refine And.intro (by decide) ?_
  intro m1 em_10
  have e1 : 0 ≤ m1.toInt ∧ m1.toInt < 40 ∧ m1.toInt = (x1).toInt % 40 := by rw [em_10]; exact pm_remc _ _ 40 rfl (by omega) (by decide)
  intro m2 em_11
  try have e2 : m2.toInt = (160) * (m1).toInt := by rw [em_11]; exact pm_mulk _ _ (160) rfl (by omega) (by omega)
  intro m3 em_13
  try have e3 : m3.toInt = (m2).toInt + (x2).toInt := by rw [em_13]; exact pm_add _ _ (by omega) (by omega)
  refine Exists.intro _ (Exists.intro _ (And.intro (Or.inl (md_a_wasColours D)) (And.intro (by omega) ?_)))
  have w4 : (0 : Int) ≤ (f 12 (m3).toInt.toNat).toInt ∧ (f 12 (m3).toInt.toNat).toInt ≤ (23 : Int) := hf 12 _
  exact ⟨rfl, fun e9 => absurd e9 (by decide), rfl, (f 12 (m3).toInt.toNat), rfl, rfl, by exact ⟨by unfold rC; congr 1; omega, by omega⟩⟩

set_option maxRecDepth 100000 in
set_option maxHeartbeats 2000000 in
theorem F_X11_wasName (D : md_D h q) (v : Nat → Int32) (f : Nat → Nat → Int32) (hv : md_V v) (hf : md_F f) (x1 : Int32) (x2 : Int32) (p0 : 0 ≤ x1.toInt) (p1 : 0 ≤ x2.toInt ∧ x2.toInt < 160) : pm_Mt l g 229 0 0 0 [.ref h, .int x1, .int x2] (md A0 g h q v f) (md_Qp (md A0 g h q v f) (fun r => r = rM f x1.toInt x2.toInt.toNat)) := by
  refine mt_X11_wasName rfl (fun J hC => ?_)
  have hv9 := hv
  unfold md_V at hv9
  have rg_x1 := pm_rng x1
  have rg_x2 := pm_rng x2
  refine hC.1 0 0 _ _ rfl _ _ _ _ _ ?_
  refine Exists.intro _ (And.intro md_o ?_)
  have k160 : (160 : Int32).toInt = 160 := rfl
  have k40 : (40 : Int32).toInt = 40 := rfl
  refine And.intro (by decide) ?_
  intro m1 em_10
  have e1 : 0 ≤ m1.toInt ∧ m1.toInt < 40 ∧ m1.toInt = (x1).toInt % 40 := by rw [em_10]; exact pm_remc _ _ 40 rfl (by omega) (by decide)
  intro m2 em_11
  try have e2 : m2.toInt = (160) * (m1).toInt := by rw [em_11]; exact pm_mulk _ _ (160) rfl (by omega) (by omega)
  intro m3 em_13
  try have e3 : m3.toInt = (m2).toInt + (x2).toInt := by rw [em_13]; exact pm_add _ _ (by omega) (by omega)
  refine Exists.intro _ (Exists.intro _ (And.intro (Or.inl (md_a_wasNames D)) (And.intro (by omega) ?_)))
  exact ⟨rfl, fun e9 => absurd e9 (by decide), rfl, (f 13 (m3).toInt.toNat), rfl, rfl, by unfold rM; congr 1; omega⟩

set_option maxRecDepth 100000 in
set_option maxHeartbeats 2000000 in
theorem F_X11_wasPlace (D : md_D h q) (v : Nat → Int32) (f : Nat → Nat → Int32) (hv : md_V v) (hf : md_F f) (x1 : Int32) (x2 : Int32) (p0 : 0 ≤ x1.toInt) : pm_Mt l g 236 1 0 0 [.ref h, .int x1, .int x2] (md A0 g h q v f) (md_Qp (md A0 g h q v f) (fun r => (-1 ≤ r.toInt ∧ r.toInt < 160) ∧ r.toInt = nextEq (rM f x1.toInt) x2 0 (rN f x1.toInt).toInt.toNat)) := by
  refine mt_X11_wasPlace rfl (fun J hC => ?_)
  have hv9 := hv
  unfold md_V at hv9
  have rg_x1 := pm_rng x1
  have rg_x2 := pm_rng x2
  have rb9 : 0 ≤ (rN f x1.toInt).toInt ∧ (rN f x1.toInt).toInt ≤ 160 := hf 14 _
  refine hC.1 0 0 _ _ rfl _ _ _ _ _ ?_
  have k0 : (0 : Int32).toInt = 0 := rfl
  have lp1 : ∀ (n : Nat) (z3_2 : Int32), (0 ≤ z3_2.toInt ∧ z3_2.toInt ≤ 160) → (z3_2.toInt ≤ (rN f x1.toInt).toInt ∧ nextEq (rM f x1.toInt) x2 0 (rN f x1.toInt).toInt.toNat = nextEq (rM f x1.toInt) x2 z3_2.toInt.toNat ((rN f x1.toInt).toInt - z3_2.toInt).toNat) → 200 - z3_2.toInt < (n : Int) → J 2 [some (.ref h), some (.int x1), some (.int x2), some (.int z3_2)] [] (md A0 g h q v f) 0 0 := by
    intro n
    induction n with
    | zero =>
      intro z3_2 j0_2 j1_2 j2_2
      omega
    | succ n ih2 =>
      intro z3_2 j0_2 j1_2 j2_2
      refine hC.1 1 2 _ _ rfl _ _ _ _ _ ?_
      refine Exists.intro _ (And.intro md_o ?_)
      have k40 : (40 : Int32).toInt = 40 := rfl
      refine And.intro (by decide) ?_
      intro m3 em_10
      have e3 : 0 ≤ m3.toInt ∧ m3.toInt < 40 ∧ m3.toInt = (x1).toInt % 40 := by rw [em_10]; exact pm_remc _ _ 40 rfl (by omega) (by decide)
      refine Exists.intro _ (Exists.intro _ (And.intro (Or.inl (md_a_wasMany D)) (And.intro (by omega) ?_)))
      have w4 : (0 : Int) ≤ (f 14 (m3).toInt.toNat).toInt ∧ (f 14 (m3).toInt.toNat).toInt ≤ (160 : Int) := hf 14 _
      have rn9 : ((f 14 (m3).toInt.toNat)).toInt = (rN f x1.toInt).toInt := (by unfold rN; congr 2; omega)
      refine And.intro (fun c5 => ?_) (fun c5 => ?_)
      · skip
        refine hC.1 3 33 _ _ rfl _ _ _ _ _ ?_
        have km1 : (-1 : Int32).toInt = -1 := rfl
        exact ⟨rfl, fun e9 => absurd e9 (by decide), rfl, (-1 : Int32), rfl, rfl, by refine ⟨by omega, ?_⟩; rw [j1_2.2, show ((rN f x1.toInt).toInt - z3_2.toInt).toNat = 0 by omega]; rfl⟩
      · skip
        refine And.intro (Exists.intro _ md_o) (Exists.intro _ (Exists.intro _ (Exists.intro _ (Exists.intro _ (And.intro (F_X11_wasName D v f hv hf x1 z3_2 (by omega) (by omega)) (And.intro rfl (fun r9 A9 h9 => ?_)))))))
        obtain ⟨y6, rfl, rfl, by6⟩ := h9
        have hm9 := by6
        refine And.intro (fun c7 => ?_) (fun c7 => ?_)
        · skip
          have dc7 := pm_neI c7
          refine hC.1 2 27 _ _ rfl _ _ _ _ _ ?_
          have k1 : (1 : Int32).toInt = 1 := rfl
          intro m8 em_27
          try have e8 : m8.toInt = (z3_2).toInt + (1) := by rw [em_27]; exact pm_addc _ _ (1) rfl (by omega) (by omega)
          exact ih2 m8 (by omega) (by refine ⟨by omega, ?_⟩; rw [j1_2.2, nextEq_s (by omega) (by omega), if_neg (by rw [← hm9]; assumption)]; congr 1 <;> omega) (by omega)
        · skip
          have dc7 : (y6).toInt = (x2 : Int32).toInt := congrArg Int32.toInt c7
          exact ⟨rfl, fun e9 => absurd e9 (by decide), rfl, z3_2, rfl, rfl, by refine ⟨by omega, ?_⟩; rw [j1_2.2, nextEq_s (by omega) (by omega), if_pos (by rw [← hm9]; assumption)]⟩
  exact lp1 (200 - (0 : Int32).toInt).toNat.succ (0 : Int32) (by omega) (by exact ⟨by omega, by congr 1 <;> omega⟩) (by omega)

set_option maxRecDepth 100000 in
set_option maxHeartbeats 2000000 in
theorem F_X11_wasSet (D : md_D h q) (v : Nat → Int32) (f : Nat → Nat → Int32) (hv : md_V v) (hf : md_F f) (x1 : Int32) (x2 : Int32) (x3 : Int32) (p0 : 0 ≤ x1.toInt) (p1 : 0 ≤ x2.toInt ∧ x2.toInt ≤ 160) (p2 : -1 ≤ x3.toInt ∧ x3.toInt < 160) : pm_Mt l g 232 1 0 0 [.ref h, .int x1, .int x2, .int x3] (md A0 g h q v f) (md_Qp (md A0 g h q v f) (fun r => r = setF (rC f x1.toInt) x2.toInt.toNat (x3.toInt + 1 - x2.toInt).toNat)) := by
  refine mt_X11_wasSet rfl (fun J hC => ?_)
  have hv9 := hv
  unfold md_V at hv9
  have rg_x1 := pm_rng x1
  have rg_x2 := pm_rng x2
  have rg_x3 := pm_rng x3
  refine hC.1 0 0 _ _ rfl _ _ _ _ _ ?_
  have k0 : (0 : Int32).toInt = 0 := rfl
  have lp1 : ∀ (n : Nat) (z4_6 : Int32) (z5_6 : Int32), (x2.toInt ≤ z5_6.toInt ∧ z5_6.toInt ≤ 161 ∧ (z5_6.toInt ≤ x3.toInt + 1 ∨ z5_6.toInt = x2.toInt)) → (z4_6 = setF (rC f x1.toInt) x2.toInt.toNat (z5_6.toInt - x2.toInt).toNat) → 200 - z5_6.toInt < (n : Int) → J 6 [some (.ref h), some (.int x1), some (.int x2), some (.int x3), some (.int z4_6), some (.int z5_6)] [] (md A0 g h q v f) 0 0 := by
    intro n
    induction n with
    | zero =>
      intro z4_6 z5_6 j0_6 j1_6 j2_6
      omega
    | succ n ih2 =>
      intro z4_6 z5_6 j0_6 j1_6 j2_6
      refine hC.1 1 6 _ _ rfl _ _ _ _ _ ?_
      refine And.intro (fun c3 => ?_) (fun c3 => ?_)
      · skip
        refine hC.1 2 32 _ _ rfl _ _ _ _ _ ?_
        exact ⟨rfl, fun e9 => absurd e9 (by decide), rfl, z4_6, rfl, rfl, by rw [j1_6]; congr 1; omega⟩
      · skip
        have k1 : (1 : Int32).toInt = 1 := rfl
        refine And.intro (Exists.intro _ md_o) (Exists.intro _ (Exists.intro _ (Exists.intro _ (Exists.intro _ (And.intro (F_X11_wasColour D v f hv hf x1 z5_6 (by omega) (by omega)) (And.intro rfl (fun r9 A9 h9 => ?_)))))))
        obtain ⟨y4, rfl, rfl, by4⟩ := h9
        have ha9 := by4.1
        intro m5 em_26
        try have e5 : m5.toInt = (z5_6).toInt + (1) := by rw [em_26]; exact pm_addc _ _ (1) rfl (by omega) (by omega)
        exact ih2 (z4_6 ||| ((1 : Int32) <<< (y4 &&& 31))) m5 (by omega) (by rw [j1_6, ha9]; exact setF_s (m := m5) (by omega) (by omega)) (by omega)
  exact lp1 (200 - x2.toInt).toNat.succ (0 : Int32) x2 (by omega) (by rw [show (x2.toInt - x2.toInt).toNat = 0 by omega]; rfl) (by omega)

end
end
section
/-! bitCount: byte by byte -/
noncomputable def by4 (n a b c d : Nat) : Prop := n = a + 256 * b + 65536 * c + 16777216 * d ∧ a < 256 ∧ b < 256 ∧ c < 256 ∧ d < 256
end
section
/-! the shelf: which colour goes, what is on it, how many misses -/
noncomputable def b1 (x : Int32) : Int32 := (1 : Int32) <<< (x &&& 31)
end
section
/-! the rows that are known: what an edit writes into the reference's slots -/
noncomputable def HK (f0 f : Nat → Nat → Int32) (n t : Int32) (s : Nat) (x : Int) : Prop := (∀ k : Nat, ¬ k = s → f 14 k = f0 14 k ∧ f 15 k = f0 15 k) ∧ (f 14 s = n ∧ f 15 s = t) ∧ (∀ k : Nat, ¬ (160 * s ≤ k ∧ k < 160 * s + 160) → f 12 k = f0 12 k ∧ f 13 k = f0 13 k) ∧ ∀ j : Nat, (j : Int) < x → f 12 (160 * s + j) = f0 0 j ∧ f 13 (160 * s + j) = f0 1 j
theorem HK_0 {f f2 : Nat → Nat → Int32} {n t : Int32} {s : Nat} (e14 : f2 14 = upd (f 14) s n) (e15 : f2 15 = upd (f 15) s t) (e12 : f2 12 = f 12) (e13 : f2 13 = f 13) : HK f f2 n t s 0 :=
  ⟨fun k h => by rw [e14, e15, pk_un h, pk_un h]; exact ⟨rfl, rfl⟩, by rw [e14, e15, pk_us, pk_us]; exact ⟨rfl, rfl⟩, fun k _ => by rw [e12, e13]; exact ⟨rfl, rfl⟩, fun j h => by omega⟩
theorem HK_s {f0 f f2 : Nat → Nat → Int32} {n t : Int32} {s : Nat} {x : Int} (h : HK f0 f n t s x) (h0 : 0 ≤ x ∧ x < 160) (e12 : f2 12 = upd (f 12) (160 * s + x.toNat) (f0 0 x.toNat)) (e13 : f2 13 = upd (f 13) (160 * s + x.toNat) (f0 1 x.toNat)) (e14 : f2 14 = f 14) (e15 : f2 15 = f 15) : HK f0 f2 n t s (x + 1) := by
  obtain ⟨a, b, c, d⟩ := h
  refine ⟨fun k hk => by rw [e14, e15]; exact a k hk, by rw [e14, e15]; exact b, fun k hk => ?_, fun j hj => ?_⟩
  · rw [e12, e13, pk_un (by omega), pk_un (by omega)]; exact c k hk
  · by_cases e : j = x.toNat
    · rw [e, e12, e13, pk_us, pk_us]; exact ⟨rfl, rfl⟩
    · rw [e12, e13, pk_un (by omega), pk_un (by omega)]; exact d j (by omega)
noncomputable def HM (f : Nat → Nat → Int32) (v2 : Nat → Int32) (f2 : Nat → Nat → Int32) (t : Int) : Prop := (∀ i : Int, 0 ≤ i → ¬ i % 40 = (v2 4).toInt % 40 → rN f2 i = rN f i ∧ rT f2 i = rT f i ∧ ∀ j : Nat, j < 160 → rC f2 i j = rC f i j ∧ rM f2 i j = rM f i j) ∧ (rN f2 (v2 4).toInt).toInt = (v2 0).toInt ∧ (rT f2 (v2 4).toInt).toInt = t ∧ ∀ j : Nat, (j : Int) < (v2 0).toInt → rC f2 (v2 4).toInt j = f2 0 j ∧ rM f2 (v2 4).toInt j = f2 1 j
theorem HM_fr {f0 f f2 : Nat → Nat → Int32} {v2 : Nat → Int32} {t : Int} (h : HM f v2 f2 t) (e12 : f 12 = f0 12) (e13 : f 13 = f0 13) (e14 : f 14 = f0 14) (e15 : f 15 = f0 15) : HM f0 v2 f2 t := by
  obtain ⟨a, b⟩ := h
  refine ⟨fun i h1 h2 => ?_, b⟩
  have q := a i h1 h2
  unfold rN rT rC rM at q ⊢
  rw [e12, e13, e14, e15] at q
  exact q
theorem HM_of {f fp f2 : Nat → Nat → Int32} {v2 : Nat → Int32} {n t : Int32} {s : Nat} {x : Int} (h : HK fp f2 n t s x) (e12 : fp 12 = f 12) (e13 : fp 13 = f 13) (e14 : fp 14 = f 14) (e15 : fp 15 = f 15) (hn : n.toInt = (v2 0).toInt) (hs : s = ((v2 4).toInt % 40).toNat) (hx : x = (v2 0).toInt) (h0 : f2 0 = fp 0) (h1 : f2 1 = fp 1) : HM f v2 f2 t.toInt := by
  obtain ⟨a, b, c, d⟩ := h
  subst hs
  refine ⟨fun i p q => ?_, ?_, ?_, fun j hj => ?_⟩
  · unfold rN rT rC rM
    have u := a (i % 40).toNat (by omega)
    rw [← e12, ← e13, ← e14, ← e15]
    refine ⟨u.1, u.2, fun j hj => c _ (by omega)⟩
  · unfold rN; rw [b.1]; exact hn
  · unfold rT; rw [b.2]
  · unfold rC rM; rw [h0, h1]; exact d j (by omega)
noncomputable def HMe (e0 : Int) (f : Nat → Nat → Int32) (v2 : Nat → Int32) (f2 : Nat → Nat → Int32) (t : Int) : Prop := ((v2 4).toInt = e0 ∧ f2 12 = f 12 ∧ f2 13 = f 13 ∧ f2 14 = f 14 ∧ f2 15 = f 15) ∨ ((v2 4).toInt = e0 + 1 ∧ HM f v2 f2 t)
end
section
/-! the rows that are known: an edit of the class leaves all rows but its own -/
noncomputable def FRO (K : Nat) (w : Nat → Int32) (e : Nat → Nat → Int32) (w1 : Nat → Int32) (e1 : Nat → Nat → Int32) (dn : Nat) : Prop := ∀ i9, 35 ≤ i9 → i9 < 40 + 4 * K → (i9 < dn ∨ dn + 4 ≤ i9) → w1 i9 = w i9 ∧ e1 i9 = e i9
theorem FRO_s {K : Nat} {w w1 w2 : Nat → Int32} {e e1 e2 : Nat → Nat → Int32} {dn : Nat} (h : FRO K w e w1 e1 dn) (h2 : ∀ i9, 35 ≤ i9 → (i9 < dn ∨ dn + 4 ≤ i9) → w2 i9 = w1 i9 ∧ e2 i9 = e1 i9) : FRO K w e w2 e2 dn := fun i a b c =>
  ⟨(h2 i a c).1.trans (h i a b c).1, (h2 i a c).2.trans (h i a b c).2⟩
noncomputable def HCn (K : Nat) (w : Nat → Int32) (e : Nat → Nat → Int32) (w2 : Nat → Int32) (e2 : Nat → Nat → Int32) (nn2 : Nat) (x : Int32) : Prop := (w2 0).toInt = (w 0).toInt + 1 ∧ FRO K w e w2 e2 nn2 ∧ (w2 (nn2 + 1)).toInt = x.toInt
noncomputable def HCe (K nn : Nat) (w : Nat → Int32) (e : Nat → Nat → Int32) (w2 : Nat → Int32) (e2 : Nat → Nat → Int32) (nn2 : Nat) (x : Int32) : Prop := ((w2 0).toInt = (w 0).toInt ∧ nn2 = nn ∧ ∀ i9, 35 ≤ i9 → w2 i9 = w i9 ∧ e2 i9 = e i9) ∨ HCn K w e w2 e2 nn2 x
end
section
/-! since: from which edit on a name has the bond that it has now -/
theorem FST_n {m : Nat → Int32} {n r : Int} {x : Int32} (hn : 0 ≤ n) (h : FST m n x r) : r = nextEq m x 0 n.toNat := by
  rcases h with ⟨a, b⟩ | ⟨a, b, c, d⟩
  · rw [a, nextEq_m n.toNat 0 (fun i _ hi => b i (by omega))]
  · rw [nextEq_0 n.toNat 0 r.toNat (by omega) (by omega) c (fun i _ hi => d i (by omega))]; omega
end
section
/-! changed: how many names are otherwise now than behind an edit -/
noncomputable def qn (k : Nat → Int32) (n : Int) (x : Int32) : Int := nextEq k x 0 n.toNat
end
section
/-! report: the k-th by its bond, those without ahead of all -/
noncomputable def la (c : Nat → Int32) (i : Nat) : Int := lastEq c (c i) i
noncomputable def kR (c : Nat → Int32) (i : Nat) : Int := if la c i < 0 then (i : Int) - 160 else la c i
end
section
/-! the questions: an answer by its row, all of them, one more -/
noncomputable def ANR (c m W : Nat → Int32) (n : Int) (a b x y : Int32) : Prop := (¬ (0 ≤ nextEq m a 0 n.toNat ∧ 0 ≤ nextEq m b 0 n.toNat) ∧ x = -1 ∧ y = -1) ∨ ((0 ≤ nextEq m a 0 n.toNat ∧ 0 ≤ nextEq m b 0 n.toNat) ∧ x.toInt = (cntB (sS c (min (nextEq m a 0 n.toNat) (nextEq m b 0 n.toNat)) (max (nextEq m a 0 n.toNat) (nextEq m b 0 n.toNat))) 24 : Int) ∧ y = msB W (sS c (min (nextEq m a 0 n.toNat) (nextEq m b 0 n.toNat)) (max (nextEq m a 0 n.toNat) (nextEq m b 0 n.toNat))) 24)
theorem ANR_no {c m W : Nat → Int32} {n : Int} {a b x y : Int32} {p q : Int} (hp : p = nextEq m a 0 n.toNat) (hq : q = nextEq m b 0 n.toNat) (h : ¬ (0 ≤ p ∧ 0 ≤ q)) (hx : x = -1) (hy : y = -1) : ANR c m W n a b x y := Or.inl ⟨by rw [← hp, ← hq]; exact h, hx, hy⟩
theorem ANR_yes {c m W : Nat → Int32} {n : Int} {a b x y : Int32} {p q l r : Int} (hp : p = nextEq m a 0 n.toNat) (hq : q = nextEq m b 0 n.toNat) (h : 0 ≤ p ∧ 0 ≤ q) (hl : (p ≤ q ∧ l = p ∧ r = q) ∨ (q ≤ p ∧ l = q ∧ r = p)) (hx : x.toInt = (cntB (sS c l r) 24 : Int)) (hy : y = msB W (sS c l r) 24) : ANR c m W n a b x y := Or.inr (by
  rw [← hp, ← hq]
  rw [show min p q = l by omega, show max p q = r by omega]
  exact ⟨h, hx, hy⟩)
theorem ANR_u {c m W d k V : Nat → Int32} {n n2 : Int32} {a b x y x2 y2 : Int32} {L : List pl_P} (h1 : rp n c m L) (h2 : rp n2 d k L) (hw : ∀ j, j < 24 → W j = V j) (g1 : ANR c m W n.toInt a b x y) (g2 : ANR d k V n2.toInt a b x2 y2) : x = x2 ∧ y = y2 := by
  have e0 : n.toInt = n2.toInt := h1.1.trans h2.1.symm
  have hl := h1.1
  have hc : ∀ j : Nat, (j : Int) < n.toInt → c j = d j := fun j hj => by rw [(h1.2 j (by omega)).1, (h2.2 j (by omega)).1]
  have hm : ∀ j : Nat, (j : Int) < n.toInt → m j = k j := fun j hj => by rw [(h1.2 j (by omega)).2, (h2.2 j (by omega)).2]
  have e1 : ∀ z, nextEq m z 0 n.toInt.toNat = nextEq k z 0 n2.toInt.toNat := fun z => by
    rw [← e0]
    exact nextEq_eq _ _ (fun j hj => hm j (by omega))
  have q1 := nextEq_lt m a 0 n.toInt.toNat
  have q2 := nextEq_lt m b 0 n.toInt.toNat
  unfold ANR at g2
  rw [← e1, ← e1] at g2
  rcases g1 with ⟨a1, a2, a3⟩ | ⟨a1, a2, a3⟩
  · rcases g2 with ⟨b1, b2, b3⟩ | ⟨b1, b2, b3⟩
    · exact ⟨a2.trans b2.symm, a3.trans b3.symm⟩
    · exact absurd b1 a1
  · rcases g2 with ⟨b1, b2, b3⟩ | ⟨b1, b2, b3⟩
    · exact absurd a1 b1
    · have es := sS_eq (c := c) (d := d) (n := n.toInt) (l := min (nextEq m a 0 n.toInt.toNat) (nextEq m b 0 n.toInt.toNat)) (r := max (nextEq m a 0 n.toInt.toNat) (nextEq m b 0 n.toInt.toNat)) hc (by omega)
      rw [← es] at b2 b3
      exact ⟨pm_eqI (a2.trans b2.symm), a3.trans ((msB_eq 24 hw).trans b3.symm)⟩
/-- of what was asked of an edit, or of none -/
noncomputable def AKI (c m W : Nat → Int32) (n E : Int) (hn : Int → Int) (hc hm : Int → Nat → Int32) (ed a b x y : Int32) : Prop := (ed.toInt = -1 ∧ ANR c m W n a b x y) ∨ (¬ ed.toInt = -1 ∧ kno E ed.toInt ∧ ANR (hc ed.toInt) (hm ed.toInt) W (hn ed.toInt) a b x y) ∨ (¬ ed.toInt = -1 ∧ ¬ kno E ed.toInt ∧ x = -1 ∧ y = -1)
/-- the class's rows by edits -/
noncomputable def cro (i : Int) : Nat := (40 + 4 * (i % 41)).toNat
noncomputable def cN (w : Nat → Int32) (i : Int) : Int := (w (cro i)).toInt
noncomputable def cC (e : Nat → Nat → Int32) (i : Int) : Nat → Int32 := e (cro i + 1)
noncomputable def cM (e : Nat → Nat → Int32) (i : Int) : Nat → Int32 := e (cro i + 2)
theorem cro_i {i : Int} (h : 0 ≤ i) : (cro i : Int) = 40 + 4 * (i % 41) := by unfold cro; omega
noncomputable def rNi (f : Nat → Nat → Int32) (i : Int) : Int := (rN f i).toInt
/-- how many have answers -/
noncomputable def cnA (x : Nat → Int32) : Nat → Int
  | 0 => 0
  | k + 1 => cnA x k + (if x k = -1 then 0 else 1)
theorem cnA_eq {x y : Nat → Int32} : ∀ k, (∀ j, j < k → x j = y j) → cnA x k = cnA y k
  | 0, _ => rfl
  | k + 1, h => by rw [cnA, cnA, cnA_eq k (fun j hj => h j (by omega)), h k (by omega)]
theorem cnA_r (x : Nat → Int32) : ∀ k, 0 ≤ cnA x k ∧ cnA x k ≤ k
  | 0 => ⟨Int.le_refl _, Int.le_refl _⟩
  | k + 1 => by
    have h := cnA_r x k
    rw [cnA]
    split <;> omega
theorem cnA_1 {x y : Nat → Int32} {k : Nat} {z : Int32} (h : y = upd x k z) (hz : ¬ z = -1) : cnA y (k + 1) = cnA x k + 1 := by
  subst h
  rw [cnA, pk_us, if_neg hz, cnA_eq k (fun j hj => pk_un (by omega))]
theorem cnA_0 {x y : Nat → Int32} {k : Nat} {z : Int32} (h : y = upd x k z) (hz : z = -1) : cnA y (k + 1) = cnA x k := by
  subst h
  rw [cnA, pk_us, if_pos hz, cnA_eq k (fun j hj => pk_un (by omega)), Int.add_zero]
theorem m1_ne {z : Int32} (h : 0 ≤ z.toInt) : ¬ z = -1 := fun e => by rw [e] at h; exact absurd h (by decide)
/-- one more asked: n how many, p names, o others, s kinds, t masses, i edits -/
noncomputable def QST (ok : Prop) (ed a b n n2 r : Int32) (p o s t i p2 o2 s2 t2 i2 : Nat → Int32) : Prop := (¬ ok ∧ n2 = n ∧ r = -1 ∧ p2 = p ∧ o2 = o ∧ s2 = s ∧ t2 = t ∧ i2 = i) ∨ (ok ∧ n2 = n + 1 ∧ r = n ∧ p2 = upd p n.toInt.toNat a ∧ o2 = upd o n.toInt.toNat b ∧ s2 = upd s n.toInt.toNat (-1) ∧ t2 = upd t n.toInt.toNat (-1) ∧ i2 = upd i n.toInt.toNat ed)
/-- what asked tells -/
noncomputable def ASD (n x t : Int) (p o s u i : Nat → Int32) : Int32 := if 0 ≤ x ∧ x < n then (if t = 0 then s x.toNat else if t = 1 then u x.toNat else if t = 2 then p x.toNat else if t = 3 then o x.toNat else if t = 4 then i x.toNat else -1) else -1
theorem ASD_n {n x t : Int} {p o s u i : Nat → Int32} (h : ¬ (0 ≤ x ∧ x < n)) : ASD n x t p o s u i = -1 := if_neg h
theorem ASD_d {n x t : Int} {p o s u i : Nat → Int32} (h : ¬ (0 ≤ t ∧ t ≤ 4)) : ASD n x t p o s u i = -1 := by
  unfold ASD
  split
  · rw [if_neg (by omega), if_neg (by omega), if_neg (by omega), if_neg (by omega), if_neg (by omega)]
  · rfl
theorem ASD_0 {n x t : Int} {p o s u i : Nat → Int32} (h : 0 ≤ x ∧ x < n) (ht : t = 0) : ASD n x t p o s u i = s x.toNat := by unfold ASD; rw [if_pos h, if_pos ht]
theorem ASD_1 {n x t : Int} {p o s u i : Nat → Int32} (h : 0 ≤ x ∧ x < n) (ht : t = 1) : ASD n x t p o s u i = u x.toNat := by unfold ASD; rw [if_pos h, if_neg (by omega), if_pos ht]
theorem ASD_2 {n x t : Int} {p o s u i : Nat → Int32} (h : 0 ≤ x ∧ x < n) (ht : t = 2) : ASD n x t p o s u i = p x.toNat := by unfold ASD; rw [if_pos h, if_neg (by omega), if_neg (by omega), if_pos ht]
theorem ASD_3 {n x t : Int} {p o s u i : Nat → Int32} (h : 0 ≤ x ∧ x < n) (ht : t = 3) : ASD n x t p o s u i = o x.toNat := by unfold ASD; rw [if_pos h, if_neg (by omega), if_neg (by omega), if_neg (by omega), if_pos ht]
theorem ASD_4 {n x t : Int} {p o s u i : Nat → Int32} (h : 0 ≤ x ∧ x < n) (ht : t = 4) : ASD n x t p o s u i = i x.toNat := by unfold ASD; rw [if_pos h, if_neg (by omega), if_neg (by omega), if_neg (by omega), if_neg (by omega), if_pos ht]
theorem pk_uu {c : Nat → Int32} {i : Nat} {a b : Int32} : upd (upd c i a) i b = upd c i b := funext (fun j => by
  by_cases h : j = i
  · rw [h, pk_us, pk_us]
  · rw [pk_un h, pk_un h, pk_un h])
theorem ANR_e {c m W c2 m2 W2 : Nat → Int32} {n n2 : Int} {a b a2 b2 x y : Int32} (h : ANR c m W n a b x y) (hc : c = c2) (hm : m = m2) (hw : W = W2) (hn : n = n2) (ha : a = a2) (hb : b = b2) : ANR c2 m2 W2 n2 a2 b2 x y := by
  subst hc; subst hm; subst hw; subst hn; subst ha; subst hb; exact h
theorem AKI_row {w : Nat → Int32} {e : Nat → Nat → Int32} {c m W : Nat → Int32} {n E : Int} {ed a b x y : Int32} {o : Nat} (he : ¬ ed.toInt = -1) (hk : kno E ed.toInt) (ho : cro ed.toInt = o) (h : ANR (e (o + 1)) (e (o + 2)) W (w o).toInt a b x y) : AKI c m W n E (cN w) (cC e) (cM e) ed a b x y := Or.inr (Or.inl ⟨he, hk, by unfold cC cM cN; rw [ho]; exact h⟩)
theorem QST_i {ok ok2 : Prop} {ed a b n n2 r : Int32} {p o s t i p2 o2 s2 t2 i2 : Nat → Int32} (h : QST ok ed a b n n2 r p o s t i p2 o2 s2 t2 i2) (hk : ok ↔ ok2) : QST ok2 ed a b n n2 r p o s t i p2 o2 s2 t2 i2 := by
  rcases h with ⟨h1, h2⟩ | ⟨h1, h2⟩
  · exact Or.inl ⟨fun q => h1 (hk.mpr q), h2⟩
  · exact Or.inr ⟨hk.mp h1, h2⟩
theorem PLN {m : Nat → Int32} {n s : Int} {x : Int32} (hn : 0 ≤ n) (h : (x.toInt < 0 ∧ s = -1) ∨ (0 ≤ x.toInt ∧ FST m n x s)) : (0 ≤ s ↔ (0 ≤ x.toInt ∧ 0 ≤ nextEq m x 0 n.toNat)) := by
  rcases h with ⟨h1, h2⟩ | ⟨h1, h2⟩
  · exact ⟨fun q => by omega, fun q => by omega⟩
  · have h3 := FST_n hn h2
    exact ⟨fun q => ⟨h1, by omega⟩, fun q => by omega⟩
noncomputable def PBR (n : Int) (m : Nat → Int32) (E : Int) (hn : Int → Int) (hm : Int → Nat → Int32) (ed x : Int32) (r : Int) : Prop := (ed.toInt = -1 ∧ r = nextEq m x 0 n.toNat) ∨ (¬ ed.toInt = -1 ∧ kno E ed.toInt ∧ r = nextEq (hm ed.toInt) x 0 (hn ed.toInt).toNat) ∨ (¬ ed.toInt = -1 ∧ ¬ kno E ed.toInt ∧ r = -1)
/-- an answer of the reference, by the places that were found and the set of what is between -/
theorem AKI_no {c m W : Nat → Int32} {n E : Int} {hn : Int → Int} {hc hm : Int → Nat → Int32} {ed a b x y : Int32} {p q : Int} (hp : PBR n m E hn hm ed a p) (hq : PBR n m E hn hm ed b q) (h : ¬ (0 ≤ p ∧ 0 ≤ q)) (hx : x = -1) (hy : y = -1) : AKI c m W n E hn hc hm ed a b x y := by
  rcases hp with ⟨p1, p2⟩ | ⟨p1, p2, p3⟩ | ⟨p1, p2, p3⟩
  · rcases hq with ⟨q1, q2⟩ | ⟨q1, q2, q3⟩ | ⟨q1, q2, q3⟩
    · exact Or.inl ⟨p1, ANR_no p2 q2 h hx hy⟩
    · exact absurd p1 q1
    · exact absurd p1 q1
  · rcases hq with ⟨q1, q2⟩ | ⟨q1, q2, q3⟩ | ⟨q1, q2, q3⟩
    · exact absurd q1 p1
    · exact Or.inr (Or.inl ⟨p1, p2, ANR_no p3 q3 h hx hy⟩)
    · exact absurd p2 q2
  · exact Or.inr (Or.inr ⟨p1, p2, hx, hy⟩)
theorem AKI_yes {c m W : Nat → Int32} {n E : Int} {hn : Int → Int} {hc hm : Int → Nat → Int32} {ed a b x y S : Int32} {p q l r : Int} (hp : PBR n m E hn hm ed a p) (hq : PBR n m E hn hm ed b q) (h : 0 ≤ p ∧ 0 ≤ q) (hl : (p ≤ q ∧ l = p ∧ r = q) ∨ (q ≤ p ∧ l = q ∧ r = p)) (hS : (ed.toInt = -1 → S = sS c l r) ∧ (¬ ed.toInt = -1 → S = sS (hc ed.toInt) l r)) (hx : x.toInt = (cntB S 24 : Int)) (hy : y = msB W S 24) : AKI c m W n E hn hc hm ed a b x y := by
  rcases hp with ⟨p1, p2⟩ | ⟨p1, p2, p3⟩ | ⟨p1, p2, p3⟩
  · rcases hq with ⟨q1, q2⟩ | ⟨q1, q2, q3⟩ | ⟨q1, q2, q3⟩
    · have e := hS.1 p1
      subst e
      exact Or.inl ⟨p1, ANR_yes p2 q2 h hl hx hy⟩
    · exact absurd p1 q1
    · exact absurd p1 q1
  · rcases hq with ⟨q1, q2⟩ | ⟨q1, q2, q3⟩ | ⟨q1, q2, q3⟩
    · exact absurd q1 p1
    · have e := hS.2 p1
      subst e
      exact Or.inr (Or.inl ⟨p1, p2, ANR_yes p3 q3 h hl hx hy⟩)
    · exact absurd p2 q2
  · omega
/-- what about tells -/
noncomputable def ABT (n gv ed ta ak : Int32) (c : Nat → Int32) (t : Int) : Int := if t = 0 then n.toInt else if t = 1 then (cntB (sS c 0 (n.toInt - 1)) 24 : Int) else if t = 2 then gv.toInt else if t = 3 then ed.toInt else if t = 4 then ta.toInt else if t = 5 then ak.toInt else -1
theorem ABT_0 {n gv ed ta ak : Int32} {c : Nat → Int32} {t : Int} (h : t = 0) : ABT n gv ed ta ak c t = n.toInt := if_pos h
theorem ABT_1 {n gv ed ta ak : Int32} {c : Nat → Int32} {t : Int} (h : t = 1) : ABT n gv ed ta ak c t = (cntB (sS c 0 (n.toInt - 1)) 24 : Int) := by unfold ABT; rw [if_neg (by omega), if_pos h]
theorem ABT_2 {n gv ed ta ak : Int32} {c : Nat → Int32} {t : Int} (h : t = 2) : ABT n gv ed ta ak c t = gv.toInt := by unfold ABT; rw [if_neg (by omega), if_neg (by omega), if_pos h]
theorem ABT_3 {n gv ed ta ak : Int32} {c : Nat → Int32} {t : Int} (h : t = 3) : ABT n gv ed ta ak c t = ed.toInt := by unfold ABT; rw [if_neg (by omega), if_neg (by omega), if_neg (by omega), if_pos h]
theorem ABT_4 {n gv ed ta ak : Int32} {c : Nat → Int32} {t : Int} (h : t = 4) : ABT n gv ed ta ak c t = ta.toInt := by unfold ABT; rw [if_neg (by omega), if_neg (by omega), if_neg (by omega), if_neg (by omega), if_pos h]
theorem ABT_5 {n gv ed ta ak : Int32} {c : Nat → Int32} {t : Int} (h : t = 5) : ABT n gv ed ta ak c t = ak.toInt := by unfold ABT; rw [if_neg (by omega), if_neg (by omega), if_neg (by omega), if_neg (by omega), if_neg (by omega), if_pos h]
theorem ABT_d {n gv ed ta ak : Int32} {c : Nat → Int32} {t : Int} (h : ¬ (0 ≤ t ∧ t ≤ 5)) : ABT n gv ed ta ak c t = -1 := by unfold ABT; rw [if_neg (by omega), if_neg (by omega), if_neg (by omega), if_neg (by omega), if_neg (by omega), if_neg (by omega)]
theorem ABT_u {n n2 gv gv2 ed ed2 ta ta2 ak ak2 : Int32} {c d : Nat → Int32} {t x y : Int} (hc : ∀ j : Nat, (j : Int) < n.toInt → c j = d j) (hn : n.toInt = n2.toInt) (hg : gv = gv2) (he : ed.toInt = ed2.toInt) (h5 : ta = ta2) (h6 : ak = ak2) (a : x = ABT n gv ed ta ak c t) (b : y = ABT n2 gv2 ed2 ta2 ak2 d t) : x = y := by
  subst hg; subst h5; subst h6
  have e1 := pm_eqI hn
  have e2 := pm_eqI he
  subst e1; subst e2
  rw [a, b]
  unfold ABT
  rw [sS_eq (c := c) (d := d) (n := n.toInt) hc (by omega)]
theorem ABT_k {n gv ed ta ak : Int32} {c : Nat → Int32} {t x l r : Int} (h : t = 1) (a : x = (cntB (sS c l r) 24 : Int)) (hl : l = 0) (hr : r = n.toInt - 1) : x = ABT n gv ed ta ak c t := by
  subst hl; subst hr
  exact a.trans (ABT_1 h).symm
theorem ABT_m {n gv ed ta ak S : Int32} {c : Nat → Int32} {t x l r : Int} (h : t = 1) (k : ok24 c) (hs : S = setF c l.toNat (r + 1 - l).toNat) (b : x = (cntB S 32 : Int)) (hl : l = 0) (hr : r = n.toInt - 1) : x = ABT n gv ed ta ak c t := by
  subst hl; subst hr; subst hs
  exact (b.trans (congrArg (fun n9 : Nat => (n9 : Int)) (set_24 k _))).trans (ABT_1 h).symm
theorem SB24 {c : Nat → Int32} {hc : Int → Nat → Int32} {ed S : Int32} {l r : Int} (h : (ed.toInt = -1 → S = sS c l r) ∧ (¬ ed.toInt = -1 → S = sS (hc ed.toInt) l r)) (k1 : ok24 c) (k2 : ∀ i, ok24 (hc i)) : cntB S 32 = cntB S 24 := by
  by_cases e : ed.toInt = -1
  · rw [h.1 e]; exact set_24 k1 _
  · rw [h.2 e]; exact set_24 (k2 _) _
end
