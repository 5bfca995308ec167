section
section
variable {l : Launch} {g : pm_G}
set_option maxRecDepth 100000 in
set_option maxHeartbeats 4000000 in
theorem ci_X11_init {A : pm_H} {ws : List (Nat × va_E)} {a : Nat} (nd : (List.map Prod.fst ((a, pm_ob 11 (pm_df 11)) :: ws)).Nodup) : pm_Mt l g 166 1 20 17096 [.ref a] (al A ((a, pm_ob 11 (pm_df 11)) :: ws)) (fun r A9 => r = none ∧ ∃ (a1 a4 a7 a10 a13 a16 a19 a22 a25 a28 a31 a34 a37 a40 a43 a46 a49 a52 a55 a58 : Nat) (fw : Nat → Int32), A9 = al A ((a58, pm_ia g 1449 (fun _ => 0)) :: (a55, pm_ia g 1449 (fun _ => 0)) :: (a52, pm_ia g 160 (fun _ => 0)) :: (a49, pm_ia g 24 (fun _ => 0)) :: (a46, pm_ia g 40 (fun _ => 0)) :: (a43, pm_ia g 40 (fun _ => 0)) :: (a40, pm_ia g 6400 (fun _ => 0)) :: (a37, pm_ia g 6400 (fun _ => 0)) :: (a34, pm_ia g 30 (fun _ => 0)) :: (a31, pm_ia g 30 (fun _ => 0)) :: (a28, pm_ia g 30 (fun _ => 0)) :: (a25, pm_ia g 30 (fun _ => 0)) :: (a22, pm_ia g 30 (fun _ => 0)) :: (a19, pm_ia g 160 (fun _ => 0)) :: (a16, pm_ia g 160 (fun _ => 0)) :: (a13, pm_ia g 160 (fun _ => 0)) :: (a10, pm_ia g 160 (fun _ => 0)) :: (a7, pm_ia g 24 fw) :: (a4, pm_ia g 160 (fun _ => 0)) :: (a1, pm_ia g 160 (fun _ => 0)) :: (a, pm_ob 11 [.ref a1, .ref a4, .ref a7, .ref a10, .ref a13, .ref a16, .ref a19, .int 0, .int 0, .int 0, .int 0, .int 0, .int 0, .ref a22, .ref a25, .ref a28, .ref a31, .int 0, .ref a34, .ref a37, .ref a40, .ref a43, .ref a46, .ref a49, .int 0, .ref a52, .ref a55, .ref a58]) :: ws) ∧ (List.map Prod.fst ((a58, pm_ia g 1449 (fun _ => 0)) :: (a55, pm_ia g 1449 (fun _ => 0)) :: (a52, pm_ia g 160 (fun _ => 0)) :: (a49, pm_ia g 24 (fun _ => 0)) :: (a46, pm_ia g 40 (fun _ => 0)) :: (a43, pm_ia g 40 (fun _ => 0)) :: (a40, pm_ia g 6400 (fun _ => 0)) :: (a37, pm_ia g 6400 (fun _ => 0)) :: (a34, pm_ia g 30 (fun _ => 0)) :: (a31, pm_ia g 30 (fun _ => 0)) :: (a28, pm_ia g 30 (fun _ => 0)) :: (a25, pm_ia g 30 (fun _ => 0)) :: (a22, pm_ia g 30 (fun _ => 0)) :: (a19, pm_ia g 160 (fun _ => 0)) :: (a16, pm_ia g 160 (fun _ => 0)) :: (a13, pm_ia g 160 (fun _ => 0)) :: (a10, pm_ia g 160 (fun _ => 0)) :: (a7, pm_ia g 24 fw) :: (a4, pm_ia g 160 (fun _ => 0)) :: (a1, pm_ia g 160 (fun _ => 0)) :: (a, pm_ob 11 [.ref a1, .ref a4, .ref a7, .ref a10, .ref a13, .ref a16, .ref a19, .int 0, .int 0, .int 0, .int 0, .int 0, .int 0, .ref a22, .ref a25, .ref a28, .ref a31, .int 0, .ref a34, .ref a37, .ref a40, .ref a43, .ref a46, .ref a49, .int 0, .ref a52, .ref a55, .ref a58]) :: ws)).Nodup ∧ (∀ j : Nat, j < 24 → fw j = 1) ∧ A a1 = none ∧ A a4 = none ∧ A a7 = none ∧ A a10 = none ∧ A a13 = none ∧ A a16 = none ∧ A a19 = none ∧ A a22 = none ∧ A a25 = none ∧ A a28 = none ∧ A a31 = none ∧ A a34 = none ∧ A a37 = none ∧ A a40 = none ∧ A a43 = none ∧ A a46 = none ∧ A a49 = none ∧ A a52 = none ∧ A a55 = none ∧ A a58 = none) := by
  refine mt_X11_init rfl (fun J hC => ?_)
  refine hC.1 0 0 _ _ rfl _ _ _ _ _ ?_
  refine And.intro rfl ?_
  refine And.intro rfl (And.intro rfl (fun a1 h1 => ?_))
  have g2 := al_none h1
  have nd2 : (List.map Prod.fst ((a1, pm_ia g 160 (fun _ => 0)) :: ((a, pm_ob 11 (pm_df 11)) :: ws))).Nodup := al_nd nd h1
  rw [show pm_up (al A ((a, pm_ob 11 (pm_df 11)) :: ws)) a1 (pm_ia g 160 (fun _ => 0)) = al A ((a1, pm_ia g 160 (fun _ => 0)) :: ((a, pm_ob 11 (pm_df 11)) :: ws)) from rfl]
  refine Exists.intro _ (And.intro (al_get (k := 1) nd2 rfl) (And.intro rfl ?_))
  rw [show pm_up (al A ((a1, pm_ia g 160 (fun _ => 0)) :: (a, pm_ob 11 (pm_df 11)) :: ws)) a (pm_ob 11 ((pm_df 11).set 0 (.ref a1))) = al A ((a1, pm_ia g 160 (fun _ => 0)) :: (a, pm_ob 11 [.ref a1, .null, .null, .null, .null, .null, .null, .int 0, .int 0, .int 0, .int 0, .int 0, .int 0, .null, .null, .null, .null, .int 0, .null, .null, .null, .null, .null, .null, .int 0, .null, .null, .null]) :: ws) from al_set (k := 1) nd2 rfl rfl]
  have nd3 : (List.map Prod.fst ((a1, pm_ia g 160 (fun _ => 0)) :: (a, pm_ob 11 [.ref a1, .null, .null, .null, .null, .null, .null, .int 0, .int 0, .int 0, .int 0, .int 0, .int 0, .null, .null, .null, .null, .int 0, .null, .null, .null, .null, .null, .null, .int 0, .null, .null, .null]) :: ws)).Nodup := nd2
  refine And.intro rfl (And.intro rfl (fun a4 h4 => ?_))
  have g5 := al_none h4
  have nd5 : (List.map Prod.fst ((a4, pm_ia g 160 (fun _ => 0)) :: ((a1, pm_ia g 160 (fun _ => 0)) :: (a, pm_ob 11 [.ref a1, .null, .null, .null, .null, .null, .null, .int 0, .int 0, .int 0, .int 0, .int 0, .int 0, .null, .null, .null, .null, .int 0, .null, .null, .null, .null, .null, .null, .int 0, .null, .null, .null]) :: ws))).Nodup := al_nd nd3 h4
  rw [show pm_up (al A ((a1, pm_ia g 160 (fun _ => 0)) :: (a, pm_ob 11 [.ref a1, .null, .null, .null, .null, .null, .null, .int 0, .int 0, .int 0, .int 0, .int 0, .int 0, .null, .null, .null, .null, .int 0, .null, .null, .null, .null, .null, .null, .int 0, .null, .null, .null]) :: ws)) a4 (pm_ia g 160 (fun _ => 0)) = al A ((a4, pm_ia g 160 (fun _ => 0)) :: ((a1, pm_ia g 160 (fun _ => 0)) :: (a, pm_ob 11 [.ref a1, .null, .null, .null, .null, .null, .null, .int 0, .int 0, .int 0, .int 0, .int 0, .int 0, .null, .null, .null, .null, .int 0, .null, .null, .null, .null, .null, .null, .int 0, .null, .null, .null]) :: ws)) from rfl]
  refine Exists.intro _ (And.intro (al_get (k := 2) nd5 rfl) (And.intro rfl ?_))
  rw [show pm_up (al A ((a4, pm_ia g 160 (fun _ => 0)) :: (a1, pm_ia g 160 (fun _ => 0)) :: (a, pm_ob 11 [.ref a1, .null, .null, .null, .null, .null, .null, .int 0, .int 0, .int 0, .int 0, .int 0, .int 0, .null, .null, .null, .null, .int 0, .null, .null, .null, .null, .null, .null, .int 0, .null, .null, .null]) :: ws)) a (pm_ob 11 (([.ref a1, .null, .null, .null, .null, .null, .null, .int 0, .int 0, .int 0, .int 0, .int 0, .int 0, .null, .null, .null, .null, .int 0, .null, .null, .null, .null, .null, .null, .int 0, .null, .null, .null] : List Value).set 1 (.ref a4))) = al A ((a4, pm_ia g 160 (fun _ => 0)) :: (a1, pm_ia g 160 (fun _ => 0)) :: (a, pm_ob 11 [.ref a1, .ref a4, .null, .null, .null, .null, .null, .int 0, .int 0, .int 0, .int 0, .int 0, .int 0, .null, .null, .null, .null, .int 0, .null, .null, .null, .null, .null, .null, .int 0, .null, .null, .null]) :: ws) from al_set (k := 2) nd5 rfl rfl]
  have nd6 : (List.map Prod.fst ((a4, pm_ia g 160 (fun _ => 0)) :: (a1, pm_ia g 160 (fun _ => 0)) :: (a, pm_ob 11 [.ref a1, .ref a4, .null, .null, .null, .null, .null, .int 0, .int 0, .int 0, .int 0, .int 0, .int 0, .null, .null, .null, .null, .int 0, .null, .null, .null, .null, .null, .null, .int 0, .null, .null, .null]) :: ws)).Nodup := nd5
  refine And.intro rfl (And.intro rfl (fun a7 h7 => ?_))
  have g8 := al_none h7
  have nd8 : (List.map Prod.fst ((a7, pm_ia g 24 (fun _ => 0)) :: ((a4, pm_ia g 160 (fun _ => 0)) :: (a1, pm_ia g 160 (fun _ => 0)) :: (a, pm_ob 11 [.ref a1, .ref a4, .null, .null, .null, .null, .null, .int 0, .int 0, .int 0, .int 0, .int 0, .int 0, .null, .null, .null, .null, .int 0, .null, .null, .null, .null, .null, .null, .int 0, .null, .null, .null]) :: ws))).Nodup := al_nd nd6 h7
  rw [show pm_up (al A ((a4, pm_ia g 160 (fun _ => 0)) :: (a1, pm_ia g 160 (fun _ => 0)) :: (a, pm_ob 11 [.ref a1, .ref a4, .null, .null, .null, .null, .null, .int 0, .int 0, .int 0, .int 0, .int 0, .int 0, .null, .null, .null, .null, .int 0, .null, .null, .null, .null, .null, .null, .int 0, .null, .null, .null]) :: ws)) a7 (pm_ia g 24 (fun _ => 0)) = al A ((a7, pm_ia g 24 (fun _ => 0)) :: ((a4, pm_ia g 160 (fun _ => 0)) :: (a1, pm_ia g 160 (fun _ => 0)) :: (a, pm_ob 11 [.ref a1, .ref a4, .null, .null, .null, .null, .null, .int 0, .int 0, .int 0, .int 0, .int 0, .int 0, .null, .null, .null, .null, .int 0, .null, .null, .null, .null, .null, .null, .int 0, .null, .null, .null]) :: ws)) from rfl]
  refine Exists.intro _ (And.intro (al_get (k := 3) nd8 rfl) (And.intro rfl ?_))
  rw [show pm_up (al A ((a7, pm_ia g 24 (fun _ => 0)) :: (a4, pm_ia g 160 (fun _ => 0)) :: (a1, pm_ia g 160 (fun _ => 0)) :: (a, pm_ob 11 [.ref a1, .ref a4, .null, .null, .null, .null, .null, .int 0, .int 0, .int 0, .int 0, .int 0, .int 0, .null, .null, .null, .null, .int 0, .null, .null, .null, .null, .null, .null, .int 0, .null, .null, .null]) :: ws)) a (pm_ob 11 (([.ref a1, .ref a4, .null, .null, .null, .null, .null, .int 0, .int 0, .int 0, .int 0, .int 0, .int 0, .null, .null, .null, .null, .int 0, .null, .null, .null, .null, .null, .null, .int 0, .null, .null, .null] : List Value).set 2 (.ref a7))) = al A ((a7, pm_ia g 24 (fun _ => 0)) :: (a4, pm_ia g 160 (fun _ => 0)) :: (a1, pm_ia g 160 (fun _ => 0)) :: (a, pm_ob 11 [.ref a1, .ref a4, .ref a7, .null, .null, .null, .null, .int 0, .int 0, .int 0, .int 0, .int 0, .int 0, .null, .null, .null, .null, .int 0, .null, .null, .null, .null, .null, .null, .int 0, .null, .null, .null]) :: ws) from al_set (k := 3) nd8 rfl rfl]
  have nd9 : (List.map Prod.fst ((a7, pm_ia g 24 (fun _ => 0)) :: (a4, pm_ia g 160 (fun _ => 0)) :: (a1, pm_ia g 160 (fun _ => 0)) :: (a, pm_ob 11 [.ref a1, .ref a4, .ref a7, .null, .null, .null, .null, .int 0, .int 0, .int 0, .int 0, .int 0, .int 0, .null, .null, .null, .null, .int 0, .null, .null, .null, .null, .null, .null, .int 0, .null, .null, .null]) :: ws)).Nodup := nd8
  refine And.intro rfl (And.intro rfl (fun a10 h10 => ?_))
  have g11 := al_none h10
  have nd11 : (List.map Prod.fst ((a10, pm_ia g 160 (fun _ => 0)) :: ((a7, pm_ia g 24 (fun _ => 0)) :: (a4, pm_ia g 160 (fun _ => 0)) :: (a1, pm_ia g 160 (fun _ => 0)) :: (a, pm_ob 11 [.ref a1, .ref a4, .ref a7, .null, .null, .null, .null, .int 0, .int 0, .int 0, .int 0, .int 0, .int 0, .null, .null, .null, .null, .int 0, .null, .null, .null, .null, .null, .null, .int 0, .null, .null, .null]) :: ws))).Nodup := al_nd nd9 h10
  rw [show pm_up (al A ((a7, pm_ia g 24 (fun _ => 0)) :: (a4, pm_ia g 160 (fun _ => 0)) :: (a1, pm_ia g 160 (fun _ => 0)) :: (a, pm_ob 11 [.ref a1, .ref a4, .ref a7, .null, .null, .null, .null, .int 0, .int 0, .int 0, .int 0, .int 0, .int 0, .null, .null, .null, .null, .int 0, .null, .null, .null, .null, .null, .null, .int 0, .null, .null, .null]) :: ws)) a10 (pm_ia g 160 (fun _ => 0)) = al A ((a10, pm_ia g 160 (fun _ => 0)) :: ((a7, pm_ia g 24 (fun _ => 0)) :: (a4, pm_ia g 160 (fun _ => 0)) :: (a1, pm_ia g 160 (fun _ => 0)) :: (a, pm_ob 11 [.ref a1, .ref a4, .ref a7, .null, .null, .null, .null, .int 0, .int 0, .int 0, .int 0, .int 0, .int 0, .null, .null, .null, .null, .int 0, .null, .null, .null, .null, .null, .null, .int 0, .null, .null, .null]) :: ws)) from rfl]
  refine Exists.intro _ (And.intro (al_get (k := 4) nd11 rfl) (And.intro rfl ?_))
  rw [show pm_up (al A ((a10, pm_ia g 160 (fun _ => 0)) :: (a7, pm_ia g 24 (fun _ => 0)) :: (a4, pm_ia g 160 (fun _ => 0)) :: (a1, pm_ia g 160 (fun _ => 0)) :: (a, pm_ob 11 [.ref a1, .ref a4, .ref a7, .null, .null, .null, .null, .int 0, .int 0, .int 0, .int 0, .int 0, .int 0, .null, .null, .null, .null, .int 0, .null, .null, .null, .null, .null, .null, .int 0, .null, .null, .null]) :: ws)) a (pm_ob 11 (([.ref a1, .ref a4, .ref a7, .null, .null, .null, .null, .int 0, .int 0, .int 0, .int 0, .int 0, .int 0, .null, .null, .null, .null, .int 0, .null, .null, .null, .null, .null, .null, .int 0, .null, .null, .null] : List Value).set 3 (.ref a10))) = al A ((a10, pm_ia g 160 (fun _ => 0)) :: (a7, pm_ia g 24 (fun _ => 0)) :: (a4, pm_ia g 160 (fun _ => 0)) :: (a1, pm_ia g 160 (fun _ => 0)) :: (a, pm_ob 11 [.ref a1, .ref a4, .ref a7, .ref a10, .null, .null, .null, .int 0, .int 0, .int 0, .int 0, .int 0, .int 0, .null, .null, .null, .null, .int 0, .null, .null, .null, .null, .null, .null, .int 0, .null, .null, .null]) :: ws) from al_set (k := 4) nd11 rfl rfl]
  have nd12 : (List.map Prod.fst ((a10, pm_ia g 160 (fun _ => 0)) :: (a7, pm_ia g 24 (fun _ => 0)) :: (a4, pm_ia g 160 (fun _ => 0)) :: (a1, pm_ia g 160 (fun _ => 0)) :: (a, pm_ob 11 [.ref a1, .ref a4, .ref a7, .ref a10, .null, .null, .null, .int 0, .int 0, .int 0, .int 0, .int 0, .int 0, .null, .null, .null, .null, .int 0, .null, .null, .null, .null, .null, .null, .int 0, .null, .null, .null]) :: ws)).Nodup := nd11
  refine And.intro rfl (And.intro rfl (fun a13 h13 => ?_))
  have g14 := al_none h13
  have nd14 : (List.map Prod.fst ((a13, pm_ia g 160 (fun _ => 0)) :: ((a10, pm_ia g 160 (fun _ => 0)) :: (a7, pm_ia g 24 (fun _ => 0)) :: (a4, pm_ia g 160 (fun _ => 0)) :: (a1, pm_ia g 160 (fun _ => 0)) :: (a, pm_ob 11 [.ref a1, .ref a4, .ref a7, .ref a10, .null, .null, .null, .int 0, .int 0, .int 0, .int 0, .int 0, .int 0, .null, .null, .null, .null, .int 0, .null, .null, .null, .null, .null, .null, .int 0, .null, .null, .null]) :: ws))).Nodup := al_nd nd12 h13
  rw [show pm_up (al A ((a10, pm_ia g 160 (fun _ => 0)) :: (a7, pm_ia g 24 (fun _ => 0)) :: (a4, pm_ia g 160 (fun _ => 0)) :: (a1, pm_ia g 160 (fun _ => 0)) :: (a, pm_ob 11 [.ref a1, .ref a4, .ref a7, .ref a10, .null, .null, .null, .int 0, .int 0, .int 0, .int 0, .int 0, .int 0, .null, .null, .null, .null, .int 0, .null, .null, .null, .null, .null, .null, .int 0, .null, .null, .null]) :: ws)) a13 (pm_ia g 160 (fun _ => 0)) = al A ((a13, pm_ia g 160 (fun _ => 0)) :: ((a10, pm_ia g 160 (fun _ => 0)) :: (a7, pm_ia g 24 (fun _ => 0)) :: (a4, pm_ia g 160 (fun _ => 0)) :: (a1, pm_ia g 160 (fun _ => 0)) :: (a, pm_ob 11 [.ref a1, .ref a4, .ref a7, .ref a10, .null, .null, .null, .int 0, .int 0, .int 0, .int 0, .int 0, .int 0, .null, .null, .null, .null, .int 0, .null, .null, .null, .null, .null, .null, .int 0, .null, .null, .null]) :: ws)) from rfl]
  refine Exists.intro _ (And.intro (al_get (k := 5) nd14 rfl) (And.intro rfl ?_))
  rw [show pm_up (al A ((a13, pm_ia g 160 (fun _ => 0)) :: (a10, pm_ia g 160 (fun _ => 0)) :: (a7, pm_ia g 24 (fun _ => 0)) :: (a4, pm_ia g 160 (fun _ => 0)) :: (a1, pm_ia g 160 (fun _ => 0)) :: (a, pm_ob 11 [.ref a1, .ref a4, .ref a7, .ref a10, .null, .null, .null, .int 0, .int 0, .int 0, .int 0, .int 0, .int 0, .null, .null, .null, .null, .int 0, .null, .null, .null, .null, .null, .null, .int 0, .null, .null, .null]) :: ws)) a (pm_ob 11 (([.ref a1, .ref a4, .ref a7, .ref a10, .null, .null, .null, .int 0, .int 0, .int 0, .int 0, .int 0, .int 0, .null, .null, .null, .null, .int 0, .null, .null, .null, .null, .null, .null, .int 0, .null, .null, .null] : List Value).set 4 (.ref a13))) = al A ((a13, pm_ia g 160 (fun _ => 0)) :: (a10, pm_ia g 160 (fun _ => 0)) :: (a7, pm_ia g 24 (fun _ => 0)) :: (a4, pm_ia g 160 (fun _ => 0)) :: (a1, pm_ia g 160 (fun _ => 0)) :: (a, pm_ob 11 [.ref a1, .ref a4, .ref a7, .ref a10, .ref a13, .null, .null, .int 0, .int 0, .int 0, .int 0, .int 0, .int 0, .null, .null, .null, .null, .int 0, .null, .null, .null, .null, .null, .null, .int 0, .null, .null, .null]) :: ws) from al_set (k := 5) nd14 rfl rfl]
  have nd15 : (List.map Prod.fst ((a13, pm_ia g 160 (fun _ => 0)) :: (a10, pm_ia g 160 (fun _ => 0)) :: (a7, pm_ia g 24 (fun _ => 0)) :: (a4, pm_ia g 160 (fun _ => 0)) :: (a1, pm_ia g 160 (fun _ => 0)) :: (a, pm_ob 11 [.ref a1, .ref a4, .ref a7, .ref a10, .ref a13, .null, .null, .int 0, .int 0, .int 0, .int 0, .int 0, .int 0, .null, .null, .null, .null, .int 0, .null, .null, .null, .null, .null, .null, .int 0, .null, .null, .null]) :: ws)).Nodup := nd14
  refine And.intro rfl (And.intro rfl (fun a16 h16 => ?_))
  have g17 := al_none h16
  have nd17 : (List.map Prod.fst ((a16, pm_ia g 160 (fun _ => 0)) :: ((a13, pm_ia g 160 (fun _ => 0)) :: (a10, pm_ia g 160 (fun _ => 0)) :: (a7, pm_ia g 24 (fun _ => 0)) :: (a4, pm_ia g 160 (fun _ => 0)) :: (a1, pm_ia g 160 (fun _ => 0)) :: (a, pm_ob 11 [.ref a1, .ref a4, .ref a7, .ref a10, .ref a13, .null, .null, .int 0, .int 0, .int 0, .int 0, .int 0, .int 0, .null, .null, .null, .null, .int 0, .null, .null, .null, .null, .null, .null, .int 0, .null, .null, .null]) :: ws))).Nodup := al_nd nd15 h16
  rw [show pm_up (al A ((a13, pm_ia g 160 (fun _ => 0)) :: (a10, pm_ia g 160 (fun _ => 0)) :: (a7, pm_ia g 24 (fun _ => 0)) :: (a4, pm_ia g 160 (fun _ => 0)) :: (a1, pm_ia g 160 (fun _ => 0)) :: (a, pm_ob 11 [.ref a1, .ref a4, .ref a7, .ref a10, .ref a13, .null, .null, .int 0, .int 0, .int 0, .int 0, .int 0, .int 0, .null, .null, .null, .null, .int 0, .null, .null, .null, .null, .null, .null, .int 0, .null, .null, .null]) :: ws)) a16 (pm_ia g 160 (fun _ => 0)) = al A ((a16, pm_ia g 160 (fun _ => 0)) :: ((a13, pm_ia g 160 (fun _ => 0)) :: (a10, pm_ia g 160 (fun _ => 0)) :: (a7, pm_ia g 24 (fun _ => 0)) :: (a4, pm_ia g 160 (fun _ => 0)) :: (a1, pm_ia g 160 (fun _ => 0)) :: (a, pm_ob 11 [.ref a1, .ref a4, .ref a7, .ref a10, .ref a13, .null, .null, .int 0, .int 0, .int 0, .int 0, .int 0, .int 0, .null, .null, .null, .null, .int 0, .null, .null, .null, .null, .null, .null, .int 0, .null, .null, .null]) :: ws)) from rfl]
  refine Exists.intro _ (And.intro (al_get (k := 6) nd17 rfl) (And.intro rfl ?_))
  rw [show pm_up (al A ((a16, pm_ia g 160 (fun _ => 0)) :: (a13, pm_ia g 160 (fun _ => 0)) :: (a10, pm_ia g 160 (fun _ => 0)) :: (a7, pm_ia g 24 (fun _ => 0)) :: (a4, pm_ia g 160 (fun _ => 0)) :: (a1, pm_ia g 160 (fun _ => 0)) :: (a, pm_ob 11 [.ref a1, .ref a4, .ref a7, .ref a10, .ref a13, .null, .null, .int 0, .int 0, .int 0, .int 0, .int 0, .int 0, .null, .null, .null, .null, .int 0, .null, .null, .null, .null, .null, .null, .int 0, .null, .null, .null]) :: ws)) a (pm_ob 11 (([.ref a1, .ref a4, .ref a7, .ref a10, .ref a13, .null, .null, .int 0, .int 0, .int 0, .int 0, .int 0, .int 0, .null, .null, .null, .null, .int 0, .null, .null, .null, .null, .null, .null, .int 0, .null, .null, .null] : List Value).set 5 (.ref a16))) = al A ((a16, pm_ia g 160 (fun _ => 0)) :: (a13, pm_ia g 160 (fun _ => 0)) :: (a10, pm_ia g 160 (fun _ => 0)) :: (a7, pm_ia g 24 (fun _ => 0)) :: (a4, pm_ia g 160 (fun _ => 0)) :: (a1, pm_ia g 160 (fun _ => 0)) :: (a, pm_ob 11 [.ref a1, .ref a4, .ref a7, .ref a10, .ref a13, .ref a16, .null, .int 0, .int 0, .int 0, .int 0, .int 0, .int 0, .null, .null, .null, .null, .int 0, .null, .null, .null, .null, .null, .null, .int 0, .null, .null, .null]) :: ws) from al_set (k := 6) nd17 rfl rfl]
  have nd18 : (List.map Prod.fst ((a16, pm_ia g 160 (fun _ => 0)) :: (a13, pm_ia g 160 (fun _ => 0)) :: (a10, pm_ia g 160 (fun _ => 0)) :: (a7, pm_ia g 24 (fun _ => 0)) :: (a4, pm_ia g 160 (fun _ => 0)) :: (a1, pm_ia g 160 (fun _ => 0)) :: (a, pm_ob 11 [.ref a1, .ref a4, .ref a7, .ref a10, .ref a13, .ref a16, .null, .int 0, .int 0, .int 0, .int 0, .int 0, .int 0, .null, .null, .null, .null, .int 0, .null, .null, .null, .null, .null, .null, .int 0, .null, .null, .null]) :: ws)).Nodup := nd17
  refine And.intro rfl (And.intro rfl (fun a19 h19 => ?_))
  have g20 := al_none h19
  have nd20 : (List.map Prod.fst ((a19, pm_ia g 160 (fun _ => 0)) :: ((a16, pm_ia g 160 (fun _ => 0)) :: (a13, pm_ia g 160 (fun _ => 0)) :: (a10, pm_ia g 160 (fun _ => 0)) :: (a7, pm_ia g 24 (fun _ => 0)) :: (a4, pm_ia g 160 (fun _ => 0)) :: (a1, pm_ia g 160 (fun _ => 0)) :: (a, pm_ob 11 [.ref a1, .ref a4, .ref a7, .ref a10, .ref a13, .ref a16, .null, .int 0, .int 0, .int 0, .int 0, .int 0, .int 0, .null, .null, .null, .null, .int 0, .null, .null, .null, .null, .null, .null, .int 0, .null, .null, .null]) :: ws))).Nodup := al_nd nd18 h19
  rw [show pm_up (al A ((a16, pm_ia g 160 (fun _ => 0)) :: (a13, pm_ia g 160 (fun _ => 0)) :: (a10, pm_ia g 160 (fun _ => 0)) :: (a7, pm_ia g 24 (fun _ => 0)) :: (a4, pm_ia g 160 (fun _ => 0)) :: (a1, pm_ia g 160 (fun _ => 0)) :: (a, pm_ob 11 [.ref a1, .ref a4, .ref a7, .ref a10, .ref a13, .ref a16, .null, .int 0, .int 0, .int 0, .int 0, .int 0, .int 0, .null, .null, .null, .null, .int 0, .null, .null, .null, .null, .null, .null, .int 0, .null, .null, .null]) :: ws)) a19 (pm_ia g 160 (fun _ => 0)) = al A ((a19, pm_ia g 160 (fun _ => 0)) :: ((a16, pm_ia g 160 (fun _ => 0)) :: (a13, pm_ia g 160 (fun _ => 0)) :: (a10, pm_ia g 160 (fun _ => 0)) :: (a7, pm_ia g 24 (fun _ => 0)) :: (a4, pm_ia g 160 (fun _ => 0)) :: (a1, pm_ia g 160 (fun _ => 0)) :: (a, pm_ob 11 [.ref a1, .ref a4, .ref a7, .ref a10, .ref a13, .ref a16, .null, .int 0, .int 0, .int 0, .int 0, .int 0, .int 0, .null, .null, .null, .null, .int 0, .null, .null, .null, .null, .null, .null, .int 0, .null, .null, .null]) :: ws)) from rfl]
  refine Exists.intro _ (And.intro (al_get (k := 7) nd20 rfl) (And.intro rfl ?_))
  rw [show pm_up (al A ((a19, pm_ia g 160 (fun _ => 0)) :: (a16, pm_ia g 160 (fun _ => 0)) :: (a13, pm_ia g 160 (fun _ => 0)) :: (a10, pm_ia g 160 (fun _ => 0)) :: (a7, pm_ia g 24 (fun _ => 0)) :: (a4, pm_ia g 160 (fun _ => 0)) :: (a1, pm_ia g 160 (fun _ => 0)) :: (a, pm_ob 11 [.ref a1, .ref a4, .ref a7, .ref a10, .ref a13, .ref a16, .null, .int 0, .int 0, .int 0, .int 0, .int 0, .int 0, .null, .null, .null, .null, .int 0, .null, .null, .null, .null, .null, .null, .int 0, .null, .null, .null]) :: ws)) a (pm_ob 11 (([.ref a1, .ref a4, .ref a7, .ref a10, .ref a13, .ref a16, .null, .int 0, .int 0, .int 0, .int 0, .int 0, .int 0, .null, .null, .null, .null, .int 0, .null, .null, .null, .null, .null, .null, .int 0, .null, .null, .null] : List Value).set 6 (.ref a19))) = al A ((a19, pm_ia g 160 (fun _ => 0)) :: (a16, pm_ia g 160 (fun _ => 0)) :: (a13, pm_ia g 160 (fun _ => 0)) :: (a10, pm_ia g 160 (fun _ => 0)) :: (a7, pm_ia g 24 (fun _ => 0)) :: (a4, pm_ia g 160 (fun _ => 0)) :: (a1, pm_ia g 160 (fun _ => 0)) :: (a, pm_ob 11 [.ref a1, .ref a4, .ref a7, .ref a10, .ref a13, .ref a16, .ref a19, .int 0, .int 0, .int 0, .int 0, .int 0, .int 0, .null, .null, .null, .null, .int 0, .null, .null, .null, .null, .null, .null, .int 0, .null, .null, .null]) :: ws) from al_set (k := 7) nd20 rfl rfl]
  have nd21 : (List.map Prod.fst ((a19, pm_ia g 160 (fun _ => 0)) :: (a16, pm_ia g 160 (fun _ => 0)) :: (a13, pm_ia g 160 (fun _ => 0)) :: (a10, pm_ia g 160 (fun _ => 0)) :: (a7, pm_ia g 24 (fun _ => 0)) :: (a4, pm_ia g 160 (fun _ => 0)) :: (a1, pm_ia g 160 (fun _ => 0)) :: (a, pm_ob 11 [.ref a1, .ref a4, .ref a7, .ref a10, .ref a13, .ref a16, .ref a19, .int 0, .int 0, .int 0, .int 0, .int 0, .int 0, .null, .null, .null, .null, .int 0, .null, .null, .null, .null, .null, .null, .int 0, .null, .null, .null]) :: ws)).Nodup := nd20
  refine And.intro rfl (And.intro rfl (fun a22 h22 => ?_))
  have g23 := al_none h22
  have nd23 : (List.map Prod.fst ((a22, pm_ia g 30 (fun _ => 0)) :: ((a19, pm_ia g 160 (fun _ => 0)) :: (a16, pm_ia g 160 (fun _ => 0)) :: (a13, pm_ia g 160 (fun _ => 0)) :: (a10, pm_ia g 160 (fun _ => 0)) :: (a7, pm_ia g 24 (fun _ => 0)) :: (a4, pm_ia g 160 (fun _ => 0)) :: (a1, pm_ia g 160 (fun _ => 0)) :: (a, pm_ob 11 [.ref a1, .ref a4, .ref a7, .ref a10, .ref a13, .ref a16, .ref a19, .int 0, .int 0, .int 0, .int 0, .int 0, .int 0, .null, .null, .null, .null, .int 0, .null, .null, .null, .null, .null, .null, .int 0, .null, .null, .null]) :: ws))).Nodup := al_nd nd21 h22
  rw [show pm_up (al A ((a19, pm_ia g 160 (fun _ => 0)) :: (a16, pm_ia g 160 (fun _ => 0)) :: (a13, pm_ia g 160 (fun _ => 0)) :: (a10, pm_ia g 160 (fun _ => 0)) :: (a7, pm_ia g 24 (fun _ => 0)) :: (a4, pm_ia g 160 (fun _ => 0)) :: (a1, pm_ia g 160 (fun _ => 0)) :: (a, pm_ob 11 [.ref a1, .ref a4, .ref a7, .ref a10, .ref a13, .ref a16, .ref a19, .int 0, .int 0, .int 0, .int 0, .int 0, .int 0, .null, .null, .null, .null, .int 0, .null, .null, .null, .null, .null, .null, .int 0, .null, .null, .null]) :: ws)) a22 (pm_ia g 30 (fun _ => 0)) = al A ((a22, pm_ia g 30 (fun _ => 0)) :: ((a19, pm_ia g 160 (fun _ => 0)) :: (a16, pm_ia g 160 (fun _ => 0)) :: (a13, pm_ia g 160 (fun _ => 0)) :: (a10, pm_ia g 160 (fun _ => 0)) :: (a7, pm_ia g 24 (fun _ => 0)) :: (a4, pm_ia g 160 (fun _ => 0)) :: (a1, pm_ia g 160 (fun _ => 0)) :: (a, pm_ob 11 [.ref a1, .ref a4, .ref a7, .ref a10, .ref a13, .ref a16, .ref a19, .int 0, .int 0, .int 0, .int 0, .int 0, .int 0, .null, .null, .null, .null, .int 0, .null, .null, .null, .null, .null, .null, .int 0, .null, .null, .null]) :: ws)) from rfl]
  refine Exists.intro _ (And.intro (al_get (k := 8) nd23 rfl) (And.intro rfl ?_))
  rw [show pm_up (al A ((a22, pm_ia g 30 (fun _ => 0)) :: (a19, pm_ia g 160 (fun _ => 0)) :: (a16, pm_ia g 160 (fun _ => 0)) :: (a13, pm_ia g 160 (fun _ => 0)) :: (a10, pm_ia g 160 (fun _ => 0)) :: (a7, pm_ia g 24 (fun _ => 0)) :: (a4, pm_ia g 160 (fun _ => 0)) :: (a1, pm_ia g 160 (fun _ => 0)) :: (a, pm_ob 11 [.ref a1, .ref a4, .ref a7, .ref a10, .ref a13, .ref a16, .ref a19, .int 0, .int 0, .int 0, .int 0, .int 0, .int 0, .null, .null, .null, .null, .int 0, .null, .null, .null, .null, .null, .null, .int 0, .null, .null, .null]) :: ws)) a (pm_ob 11 (([.ref a1, .ref a4, .ref a7, .ref a10, .ref a13, .ref a16, .ref a19, .int 0, .int 0, .int 0, .int 0, .int 0, .int 0, .null, .null, .null, .null, .int 0, .null, .null, .null, .null, .null, .null, .int 0, .null, .null, .null] : List Value).set 13 (.ref a22))) = al A ((a22, pm_ia g 30 (fun _ => 0)) :: (a19, pm_ia g 160 (fun _ => 0)) :: (a16, pm_ia g 160 (fun _ => 0)) :: (a13, pm_ia g 160 (fun _ => 0)) :: (a10, pm_ia g 160 (fun _ => 0)) :: (a7, pm_ia g 24 (fun _ => 0)) :: (a4, pm_ia g 160 (fun _ => 0)) :: (a1, pm_ia g 160 (fun _ => 0)) :: (a, pm_ob 11 [.ref a1, .ref a4, .ref a7, .ref a10, .ref a13, .ref a16, .ref a19, .int 0, .int 0, .int 0, .int 0, .int 0, .int 0, .ref a22, .null, .null, .null, .int 0, .null, .null, .null, .null, .null, .null, .int 0, .null, .null, .null]) :: ws) from al_set (k := 8) nd23 rfl rfl]
  have nd24 : (List.map Prod.fst ((a22, pm_ia g 30 (fun _ => 0)) :: (a19, pm_ia g 160 (fun _ => 0)) :: (a16, pm_ia g 160 (fun _ => 0)) :: (a13, pm_ia g 160 (fun _ => 0)) :: (a10, pm_ia g 160 (fun _ => 0)) :: (a7, pm_ia g 24 (fun _ => 0)) :: (a4, pm_ia g 160 (fun _ => 0)) :: (a1, pm_ia g 160 (fun _ => 0)) :: (a, pm_ob 11 [.ref a1, .ref a4, .ref a7, .ref a10, .ref a13, .ref a16, .ref a19, .int 0, .int 0, .int 0, .int 0, .int 0, .int 0, .ref a22, .null, .null, .null, .int 0, .null, .null, .null, .null, .null, .null, .int 0, .null, .null, .null]) :: ws)).Nodup := nd23
  refine And.intro rfl (And.intro rfl (fun a25 h25 => ?_))
  have g26 := al_none h25
  have nd26 : (List.map Prod.fst ((a25, pm_ia g 30 (fun _ => 0)) :: ((a22, pm_ia g 30 (fun _ => 0)) :: (a19, pm_ia g 160 (fun _ => 0)) :: (a16, pm_ia g 160 (fun _ => 0)) :: (a13, pm_ia g 160 (fun _ => 0)) :: (a10, pm_ia g 160 (fun _ => 0)) :: (a7, pm_ia g 24 (fun _ => 0)) :: (a4, pm_ia g 160 (fun _ => 0)) :: (a1, pm_ia g 160 (fun _ => 0)) :: (a, pm_ob 11 [.ref a1, .ref a4, .ref a7, .ref a10, .ref a13, .ref a16, .ref a19, .int 0, .int 0, .int 0, .int 0, .int 0, .int 0, .ref a22, .null, .null, .null, .int 0, .null, .null, .null, .null, .null, .null, .int 0, .null, .null, .null]) :: ws))).Nodup := al_nd nd24 h25
  rw [show pm_up (al A ((a22, pm_ia g 30 (fun _ => 0)) :: (a19, pm_ia g 160 (fun _ => 0)) :: (a16, pm_ia g 160 (fun _ => 0)) :: (a13, pm_ia g 160 (fun _ => 0)) :: (a10, pm_ia g 160 (fun _ => 0)) :: (a7, pm_ia g 24 (fun _ => 0)) :: (a4, pm_ia g 160 (fun _ => 0)) :: (a1, pm_ia g 160 (fun _ => 0)) :: (a, pm_ob 11 [.ref a1, .ref a4, .ref a7, .ref a10, .ref a13, .ref a16, .ref a19, .int 0, .int 0, .int 0, .int 0, .int 0, .int 0, .ref a22, .null, .null, .null, .int 0, .null, .null, .null, .null, .null, .null, .int 0, .null, .null, .null]) :: ws)) a25 (pm_ia g 30 (fun _ => 0)) = al A ((a25, pm_ia g 30 (fun _ => 0)) :: ((a22, pm_ia g 30 (fun _ => 0)) :: (a19, pm_ia g 160 (fun _ => 0)) :: (a16, pm_ia g 160 (fun _ => 0)) :: (a13, pm_ia g 160 (fun _ => 0)) :: (a10, pm_ia g 160 (fun _ => 0)) :: (a7, pm_ia g 24 (fun _ => 0)) :: (a4, pm_ia g 160 (fun _ => 0)) :: (a1, pm_ia g 160 (fun _ => 0)) :: (a, pm_ob 11 [.ref a1, .ref a4, .ref a7, .ref a10, .ref a13, .ref a16, .ref a19, .int 0, .int 0, .int 0, .int 0, .int 0, .int 0, .ref a22, .null, .null, .null, .int 0, .null, .null, .null, .null, .null, .null, .int 0, .null, .null, .null]) :: ws)) from rfl]
  refine Exists.intro _ (And.intro (al_get (k := 9) nd26 rfl) (And.intro rfl ?_))
  rw [show pm_up (al A ((a25, pm_ia g 30 (fun _ => 0)) :: (a22, pm_ia g 30 (fun _ => 0)) :: (a19, pm_ia g 160 (fun _ => 0)) :: (a16, pm_ia g 160 (fun _ => 0)) :: (a13, pm_ia g 160 (fun _ => 0)) :: (a10, pm_ia g 160 (fun _ => 0)) :: (a7, pm_ia g 24 (fun _ => 0)) :: (a4, pm_ia g 160 (fun _ => 0)) :: (a1, pm_ia g 160 (fun _ => 0)) :: (a, pm_ob 11 [.ref a1, .ref a4, .ref a7, .ref a10, .ref a13, .ref a16, .ref a19, .int 0, .int 0, .int 0, .int 0, .int 0, .int 0, .ref a22, .null, .null, .null, .int 0, .null, .null, .null, .null, .null, .null, .int 0, .null, .null, .null]) :: ws)) a (pm_ob 11 (([.ref a1, .ref a4, .ref a7, .ref a10, .ref a13, .ref a16, .ref a19, .int 0, .int 0, .int 0, .int 0, .int 0, .int 0, .ref a22, .null, .null, .null, .int 0, .null, .null, .null, .null, .null, .null, .int 0, .null, .null, .null] : List Value).set 14 (.ref a25))) = al A ((a25, pm_ia g 30 (fun _ => 0)) :: (a22, pm_ia g 30 (fun _ => 0)) :: (a19, pm_ia g 160 (fun _ => 0)) :: (a16, pm_ia g 160 (fun _ => 0)) :: (a13, pm_ia g 160 (fun _ => 0)) :: (a10, pm_ia g 160 (fun _ => 0)) :: (a7, pm_ia g 24 (fun _ => 0)) :: (a4, pm_ia g 160 (fun _ => 0)) :: (a1, pm_ia g 160 (fun _ => 0)) :: (a, pm_ob 11 [.ref a1, .ref a4, .ref a7, .ref a10, .ref a13, .ref a16, .ref a19, .int 0, .int 0, .int 0, .int 0, .int 0, .int 0, .ref a22, .ref a25, .null, .null, .int 0, .null, .null, .null, .null, .null, .null, .int 0, .null, .null, .null]) :: ws) from al_set (k := 9) nd26 rfl rfl]
  have nd27 : (List.map Prod.fst ((a25, pm_ia g 30 (fun _ => 0)) :: (a22, pm_ia g 30 (fun _ => 0)) :: (a19, pm_ia g 160 (fun _ => 0)) :: (a16, pm_ia g 160 (fun _ => 0)) :: (a13, pm_ia g 160 (fun _ => 0)) :: (a10, pm_ia g 160 (fun _ => 0)) :: (a7, pm_ia g 24 (fun _ => 0)) :: (a4, pm_ia g 160 (fun _ => 0)) :: (a1, pm_ia g 160 (fun _ => 0)) :: (a, pm_ob 11 [.ref a1, .ref a4, .ref a7, .ref a10, .ref a13, .ref a16, .ref a19, .int 0, .int 0, .int 0, .int 0, .int 0, .int 0, .ref a22, .ref a25, .null, .null, .int 0, .null, .null, .null, .null, .null, .null, .int 0, .null, .null, .null]) :: ws)).Nodup := nd26
  refine And.intro rfl (And.intro rfl (fun a28 h28 => ?_))
  have g29 := al_none h28
  have nd29 : (List.map Prod.fst ((a28, pm_ia g 30 (fun _ => 0)) :: ((a25, pm_ia g 30 (fun _ => 0)) :: (a22, pm_ia g 30 (fun _ => 0)) :: (a19, pm_ia g 160 (fun _ => 0)) :: (a16, pm_ia g 160 (fun _ => 0)) :: (a13, pm_ia g 160 (fun _ => 0)) :: (a10, pm_ia g 160 (fun _ => 0)) :: (a7, pm_ia g 24 (fun _ => 0)) :: (a4, pm_ia g 160 (fun _ => 0)) :: (a1, pm_ia g 160 (fun _ => 0)) :: (a, pm_ob 11 [.ref a1, .ref a4, .ref a7, .ref a10, .ref a13, .ref a16, .ref a19, .int 0, .int 0, .int 0, .int 0, .int 0, .int 0, .ref a22, .ref a25, .null, .null, .int 0, .null, .null, .null, .null, .null, .null, .int 0, .null, .null, .null]) :: ws))).Nodup := al_nd nd27 h28
  rw [show pm_up (al A ((a25, pm_ia g 30 (fun _ => 0)) :: (a22, pm_ia g 30 (fun _ => 0)) :: (a19, pm_ia g 160 (fun _ => 0)) :: (a16, pm_ia g 160 (fun _ => 0)) :: (a13, pm_ia g 160 (fun _ => 0)) :: (a10, pm_ia g 160 (fun _ => 0)) :: (a7, pm_ia g 24 (fun _ => 0)) :: (a4, pm_ia g 160 (fun _ => 0)) :: (a1, pm_ia g 160 (fun _ => 0)) :: (a, pm_ob 11 [.ref a1, .ref a4, .ref a7, .ref a10, .ref a13, .ref a16, .ref a19, .int 0, .int 0, .int 0, .int 0, .int 0, .int 0, .ref a22, .ref a25, .null, .null, .int 0, .null, .null, .null, .null, .null, .null, .int 0, .null, .null, .null]) :: ws)) a28 (pm_ia g 30 (fun _ => 0)) = al A ((a28, pm_ia g 30 (fun _ => 0)) :: ((a25, pm_ia g 30 (fun _ => 0)) :: (a22, pm_ia g 30 (fun _ => 0)) :: (a19, pm_ia g 160 (fun _ => 0)) :: (a16, pm_ia g 160 (fun _ => 0)) :: (a13, pm_ia g 160 (fun _ => 0)) :: (a10, pm_ia g 160 (fun _ => 0)) :: (a7, pm_ia g 24 (fun _ => 0)) :: (a4, pm_ia g 160 (fun _ => 0)) :: (a1, pm_ia g 160 (fun _ => 0)) :: (a, pm_ob 11 [.ref a1, .ref a4, .ref a7, .ref a10, .ref a13, .ref a16, .ref a19, .int 0, .int 0, .int 0, .int 0, .int 0, .int 0, .ref a22, .ref a25, .null, .null, .int 0, .null, .null, .null, .null, .null, .null, .int 0, .null, .null, .null]) :: ws)) from rfl]
  refine Exists.intro _ (And.intro (al_get (k := 10) nd29 rfl) (And.intro rfl ?_))
  rw [show pm_up (al A ((a28, pm_ia g 30 (fun _ => 0)) :: (a25, pm_ia g 30 (fun _ => 0)) :: (a22, pm_ia g 30 (fun _ => 0)) :: (a19, pm_ia g 160 (fun _ => 0)) :: (a16, pm_ia g 160 (fun _ => 0)) :: (a13, pm_ia g 160 (fun _ => 0)) :: (a10, pm_ia g 160 (fun _ => 0)) :: (a7, pm_ia g 24 (fun _ => 0)) :: (a4, pm_ia g 160 (fun _ => 0)) :: (a1, pm_ia g 160 (fun _ => 0)) :: (a, pm_ob 11 [.ref a1, .ref a4, .ref a7, .ref a10, .ref a13, .ref a16, .ref a19, .int 0, .int 0, .int 0, .int 0, .int 0, .int 0, .ref a22, .ref a25, .null, .null, .int 0, .null, .null, .null, .null, .null, .null, .int 0, .null, .null, .null]) :: ws)) a (pm_ob 11 (([.ref a1, .ref a4, .ref a7, .ref a10, .ref a13, .ref a16, .ref a19, .int 0, .int 0, .int 0, .int 0, .int 0, .int 0, .ref a22, .ref a25, .null, .null, .int 0, .null, .null, .null, .null, .null, .null, .int 0, .null, .null, .null] : List Value).set 15 (.ref a28))) = al A ((a28, pm_ia g 30 (fun _ => 0)) :: (a25, pm_ia g 30 (fun _ => 0)) :: (a22, pm_ia g 30 (fun _ => 0)) :: (a19, pm_ia g 160 (fun _ => 0)) :: (a16, pm_ia g 160 (fun _ => 0)) :: (a13, pm_ia g 160 (fun _ => 0)) :: (a10, pm_ia g 160 (fun _ => 0)) :: (a7, pm_ia g 24 (fun _ => 0)) :: (a4, pm_ia g 160 (fun _ => 0)) :: (a1, pm_ia g 160 (fun _ => 0)) :: (a, pm_ob 11 [.ref a1, .ref a4, .ref a7, .ref a10, .ref a13, .ref a16, .ref a19, .int 0, .int 0, .int 0, .int 0, .int 0, .int 0, .ref a22, .ref a25, .ref a28, .null, .int 0, .null, .null, .null, .null, .null, .null, .int 0, .null, .null, .null]) :: ws) from al_set (k := 10) nd29 rfl rfl]
  have nd30 : (List.map Prod.fst ((a28, pm_ia g 30 (fun _ => 0)) :: (a25, pm_ia g 30 (fun _ => 0)) :: (a22, pm_ia g 30 (fun _ => 0)) :: (a19, pm_ia g 160 (fun _ => 0)) :: (a16, pm_ia g 160 (fun _ => 0)) :: (a13, pm_ia g 160 (fun _ => 0)) :: (a10, pm_ia g 160 (fun _ => 0)) :: (a7, pm_ia g 24 (fun _ => 0)) :: (a4, pm_ia g 160 (fun _ => 0)) :: (a1, pm_ia g 160 (fun _ => 0)) :: (a, pm_ob 11 [.ref a1, .ref a4, .ref a7, .ref a10, .ref a13, .ref a16, .ref a19, .int 0, .int 0, .int 0, .int 0, .int 0, .int 0, .ref a22, .ref a25, .ref a28, .null, .int 0, .null, .null, .null, .null, .null, .null, .int 0, .null, .null, .null]) :: ws)).Nodup := nd29
  refine And.intro rfl (And.intro rfl (fun a31 h31 => ?_))
  have g32 := al_none h31
  have nd32 : (List.map Prod.fst ((a31, pm_ia g 30 (fun _ => 0)) :: ((a28, pm_ia g 30 (fun _ => 0)) :: (a25, pm_ia g 30 (fun _ => 0)) :: (a22, pm_ia g 30 (fun _ => 0)) :: (a19, pm_ia g 160 (fun _ => 0)) :: (a16, pm_ia g 160 (fun _ => 0)) :: (a13, pm_ia g 160 (fun _ => 0)) :: (a10, pm_ia g 160 (fun _ => 0)) :: (a7, pm_ia g 24 (fun _ => 0)) :: (a4, pm_ia g 160 (fun _ => 0)) :: (a1, pm_ia g 160 (fun _ => 0)) :: (a, pm_ob 11 [.ref a1, .ref a4, .ref a7, .ref a10, .ref a13, .ref a16, .ref a19, .int 0, .int 0, .int 0, .int 0, .int 0, .int 0, .ref a22, .ref a25, .ref a28, .null, .int 0, .null, .null, .null, .null, .null, .null, .int 0, .null, .null, .null]) :: ws))).Nodup := al_nd nd30 h31
  rw [show pm_up (al A ((a28, pm_ia g 30 (fun _ => 0)) :: (a25, pm_ia g 30 (fun _ => 0)) :: (a22, pm_ia g 30 (fun _ => 0)) :: (a19, pm_ia g 160 (fun _ => 0)) :: (a16, pm_ia g 160 (fun _ => 0)) :: (a13, pm_ia g 160 (fun _ => 0)) :: (a10, pm_ia g 160 (fun _ => 0)) :: (a7, pm_ia g 24 (fun _ => 0)) :: (a4, pm_ia g 160 (fun _ => 0)) :: (a1, pm_ia g 160 (fun _ => 0)) :: (a, pm_ob 11 [.ref a1, .ref a4, .ref a7, .ref a10, .ref a13, .ref a16, .ref a19, .int 0, .int 0, .int 0, .int 0, .int 0, .int 0, .ref a22, .ref a25, .ref a28, .null, .int 0, .null, .null, .null, .null, .null, .null, .int 0, .null, .null, .null]) :: ws)) a31 (pm_ia g 30 (fun _ => 0)) = al A ((a31, pm_ia g 30 (fun _ => 0)) :: ((a28, pm_ia g 30 (fun _ => 0)) :: (a25, pm_ia g 30 (fun _ => 0)) :: (a22, pm_ia g 30 (fun _ => 0)) :: (a19, pm_ia g 160 (fun _ => 0)) :: (a16, pm_ia g 160 (fun _ => 0)) :: (a13, pm_ia g 160 (fun _ => 0)) :: (a10, pm_ia g 160 (fun _ => 0)) :: (a7, pm_ia g 24 (fun _ => 0)) :: (a4, pm_ia g 160 (fun _ => 0)) :: (a1, pm_ia g 160 (fun _ => 0)) :: (a, pm_ob 11 [.ref a1, .ref a4, .ref a7, .ref a10, .ref a13, .ref a16, .ref a19, .int 0, .int 0, .int 0, .int 0, .int 0, .int 0, .ref a22, .ref a25, .ref a28, .null, .int 0, .null, .null, .null, .null, .null, .null, .int 0, .null, .null, .null]) :: ws)) from rfl]
  refine Exists.intro _ (And.intro (al_get (k := 11) nd32 rfl) (And.intro rfl ?_))
  rw [show pm_up (al A ((a31, pm_ia g 30 (fun _ => 0)) :: (a28, pm_ia g 30 (fun _ => 0)) :: (a25, pm_ia g 30 (fun _ => 0)) :: (a22, pm_ia g 30 (fun _ => 0)) :: (a19, pm_ia g 160 (fun _ => 0)) :: (a16, pm_ia g 160 (fun _ => 0)) :: (a13, pm_ia g 160 (fun _ => 0)) :: (a10, pm_ia g 160 (fun _ => 0)) :: (a7, pm_ia g 24 (fun _ => 0)) :: (a4, pm_ia g 160 (fun _ => 0)) :: (a1, pm_ia g 160 (fun _ => 0)) :: (a, pm_ob 11 [.ref a1, .ref a4, .ref a7, .ref a10, .ref a13, .ref a16, .ref a19, .int 0, .int 0, .int 0, .int 0, .int 0, .int 0, .ref a22, .ref a25, .ref a28, .null, .int 0, .null, .null, .null, .null, .null, .null, .int 0, .null, .null, .null]) :: ws)) a (pm_ob 11 (([.ref a1, .ref a4, .ref a7, .ref a10, .ref a13, .ref a16, .ref a19, .int 0, .int 0, .int 0, .int 0, .int 0, .int 0, .ref a22, .ref a25, .ref a28, .null, .int 0, .null, .null, .null, .null, .null, .null, .int 0, .null, .null, .null] : List Value).set 16 (.ref a31))) = al A ((a31, pm_ia g 30 (fun _ => 0)) :: (a28, pm_ia g 30 (fun _ => 0)) :: (a25, pm_ia g 30 (fun _ => 0)) :: (a22, pm_ia g 30 (fun _ => 0)) :: (a19, pm_ia g 160 (fun _ => 0)) :: (a16, pm_ia g 160 (fun _ => 0)) :: (a13, pm_ia g 160 (fun _ => 0)) :: (a10, pm_ia g 160 (fun _ => 0)) :: (a7, pm_ia g 24 (fun _ => 0)) :: (a4, pm_ia g 160 (fun _ => 0)) :: (a1, pm_ia g 160 (fun _ => 0)) :: (a, pm_ob 11 [.ref a1, .ref a4, .ref a7, .ref a10, .ref a13, .ref a16, .ref a19, .int 0, .int 0, .int 0, .int 0, .int 0, .int 0, .ref a22, .ref a25, .ref a28, .ref a31, .int 0, .null, .null, .null, .null, .null, .null, .int 0, .null, .null, .null]) :: ws) from al_set (k := 11) nd32 rfl rfl]
  have nd33 : (List.map Prod.fst ((a31, pm_ia g 30 (fun _ => 0)) :: (a28, pm_ia g 30 (fun _ => 0)) :: (a25, pm_ia g 30 (fun _ => 0)) :: (a22, pm_ia g 30 (fun _ => 0)) :: (a19, pm_ia g 160 (fun _ => 0)) :: (a16, pm_ia g 160 (fun _ => 0)) :: (a13, pm_ia g 160 (fun _ => 0)) :: (a10, pm_ia g 160 (fun _ => 0)) :: (a7, pm_ia g 24 (fun _ => 0)) :: (a4, pm_ia g 160 (fun _ => 0)) :: (a1, pm_ia g 160 (fun _ => 0)) :: (a, pm_ob 11 [.ref a1, .ref a4, .ref a7, .ref a10, .ref a13, .ref a16, .ref a19, .int 0, .int 0, .int 0, .int 0, .int 0, .int 0, .ref a22, .ref a25, .ref a28, .ref a31, .int 0, .null, .null, .null, .null, .null, .null, .int 0, .null, .null, .null]) :: ws)).Nodup := nd32
  refine And.intro rfl (And.intro rfl (fun a34 h34 => ?_))
  have g35 := al_none h34
  have nd35 : (List.map Prod.fst ((a34, pm_ia g 30 (fun _ => 0)) :: ((a31, pm_ia g 30 (fun _ => 0)) :: (a28, pm_ia g 30 (fun _ => 0)) :: (a25, pm_ia g 30 (fun _ => 0)) :: (a22, pm_ia g 30 (fun _ => 0)) :: (a19, pm_ia g 160 (fun _ => 0)) :: (a16, pm_ia g 160 (fun _ => 0)) :: (a13, pm_ia g 160 (fun _ => 0)) :: (a10, pm_ia g 160 (fun _ => 0)) :: (a7, pm_ia g 24 (fun _ => 0)) :: (a4, pm_ia g 160 (fun _ => 0)) :: (a1, pm_ia g 160 (fun _ => 0)) :: (a, pm_ob 11 [.ref a1, .ref a4, .ref a7, .ref a10, .ref a13, .ref a16, .ref a19, .int 0, .int 0, .int 0, .int 0, .int 0, .int 0, .ref a22, .ref a25, .ref a28, .ref a31, .int 0, .null, .null, .null, .null, .null, .null, .int 0, .null, .null, .null]) :: ws))).Nodup := al_nd nd33 h34
  rw [show pm_up (al A ((a31, pm_ia g 30 (fun _ => 0)) :: (a28, pm_ia g 30 (fun _ => 0)) :: (a25, pm_ia g 30 (fun _ => 0)) :: (a22, pm_ia g 30 (fun _ => 0)) :: (a19, pm_ia g 160 (fun _ => 0)) :: (a16, pm_ia g 160 (fun _ => 0)) :: (a13, pm_ia g 160 (fun _ => 0)) :: (a10, pm_ia g 160 (fun _ => 0)) :: (a7, pm_ia g 24 (fun _ => 0)) :: (a4, pm_ia g 160 (fun _ => 0)) :: (a1, pm_ia g 160 (fun _ => 0)) :: (a, pm_ob 11 [.ref a1, .ref a4, .ref a7, .ref a10, .ref a13, .ref a16, .ref a19, .int 0, .int 0, .int 0, .int 0, .int 0, .int 0, .ref a22, .ref a25, .ref a28, .ref a31, .int 0, .null, .null, .null, .null, .null, .null, .int 0, .null, .null, .null]) :: ws)) a34 (pm_ia g 30 (fun _ => 0)) = al A ((a34, pm_ia g 30 (fun _ => 0)) :: ((a31, pm_ia g 30 (fun _ => 0)) :: (a28, pm_ia g 30 (fun _ => 0)) :: (a25, pm_ia g 30 (fun _ => 0)) :: (a22, pm_ia g 30 (fun _ => 0)) :: (a19, pm_ia g 160 (fun _ => 0)) :: (a16, pm_ia g 160 (fun _ => 0)) :: (a13, pm_ia g 160 (fun _ => 0)) :: (a10, pm_ia g 160 (fun _ => 0)) :: (a7, pm_ia g 24 (fun _ => 0)) :: (a4, pm_ia g 160 (fun _ => 0)) :: (a1, pm_ia g 160 (fun _ => 0)) :: (a, pm_ob 11 [.ref a1, .ref a4, .ref a7, .ref a10, .ref a13, .ref a16, .ref a19, .int 0, .int 0, .int 0, .int 0, .int 0, .int 0, .ref a22, .ref a25, .ref a28, .ref a31, .int 0, .null, .null, .null, .null, .null, .null, .int 0, .null, .null, .null]) :: ws)) from rfl]
  refine Exists.intro _ (And.intro (al_get (k := 12) nd35 rfl) (And.intro rfl ?_))
  rw [show pm_up (al A ((a34, pm_ia g 30 (fun _ => 0)) :: (a31, pm_ia g 30 (fun _ => 0)) :: (a28, pm_ia g 30 (fun _ => 0)) :: (a25, pm_ia g 30 (fun _ => 0)) :: (a22, pm_ia g 30 (fun _ => 0)) :: (a19, pm_ia g 160 (fun _ => 0)) :: (a16, pm_ia g 160 (fun _ => 0)) :: (a13, pm_ia g 160 (fun _ => 0)) :: (a10, pm_ia g 160 (fun _ => 0)) :: (a7, pm_ia g 24 (fun _ => 0)) :: (a4, pm_ia g 160 (fun _ => 0)) :: (a1, pm_ia g 160 (fun _ => 0)) :: (a, pm_ob 11 [.ref a1, .ref a4, .ref a7, .ref a10, .ref a13, .ref a16, .ref a19, .int 0, .int 0, .int 0, .int 0, .int 0, .int 0, .ref a22, .ref a25, .ref a28, .ref a31, .int 0, .null, .null, .null, .null, .null, .null, .int 0, .null, .null, .null]) :: ws)) a (pm_ob 11 (([.ref a1, .ref a4, .ref a7, .ref a10, .ref a13, .ref a16, .ref a19, .int 0, .int 0, .int 0, .int 0, .int 0, .int 0, .ref a22, .ref a25, .ref a28, .ref a31, .int 0, .null, .null, .null, .null, .null, .null, .int 0, .null, .null, .null] : List Value).set 18 (.ref a34))) = al A ((a34, pm_ia g 30 (fun _ => 0)) :: (a31, pm_ia g 30 (fun _ => 0)) :: (a28, pm_ia g 30 (fun _ => 0)) :: (a25, pm_ia g 30 (fun _ => 0)) :: (a22, pm_ia g 30 (fun _ => 0)) :: (a19, pm_ia g 160 (fun _ => 0)) :: (a16, pm_ia g 160 (fun _ => 0)) :: (a13, pm_ia g 160 (fun _ => 0)) :: (a10, pm_ia g 160 (fun _ => 0)) :: (a7, pm_ia g 24 (fun _ => 0)) :: (a4, pm_ia g 160 (fun _ => 0)) :: (a1, pm_ia g 160 (fun _ => 0)) :: (a, pm_ob 11 [.ref a1, .ref a4, .ref a7, .ref a10, .ref a13, .ref a16, .ref a19, .int 0, .int 0, .int 0, .int 0, .int 0, .int 0, .ref a22, .ref a25, .ref a28, .ref a31, .int 0, .ref a34, .null, .null, .null, .null, .null, .int 0, .null, .null, .null]) :: ws) from al_set (k := 12) nd35 rfl rfl]
  have nd36 : (List.map Prod.fst ((a34, pm_ia g 30 (fun _ => 0)) :: (a31, pm_ia g 30 (fun _ => 0)) :: (a28, pm_ia g 30 (fun _ => 0)) :: (a25, pm_ia g 30 (fun _ => 0)) :: (a22, pm_ia g 30 (fun _ => 0)) :: (a19, pm_ia g 160 (fun _ => 0)) :: (a16, pm_ia g 160 (fun _ => 0)) :: (a13, pm_ia g 160 (fun _ => 0)) :: (a10, pm_ia g 160 (fun _ => 0)) :: (a7, pm_ia g 24 (fun _ => 0)) :: (a4, pm_ia g 160 (fun _ => 0)) :: (a1, pm_ia g 160 (fun _ => 0)) :: (a, pm_ob 11 [.ref a1, .ref a4, .ref a7, .ref a10, .ref a13, .ref a16, .ref a19, .int 0, .int 0, .int 0, .int 0, .int 0, .int 0, .ref a22, .ref a25, .ref a28, .ref a31, .int 0, .ref a34, .null, .null, .null, .null, .null, .int 0, .null, .null, .null]) :: ws)).Nodup := nd35
  refine And.intro rfl (And.intro rfl (fun a37 h37 => ?_))
  have g38 := al_none h37
  have nd38 : (List.map Prod.fst ((a37, pm_ia g 6400 (fun _ => 0)) :: ((a34, pm_ia g 30 (fun _ => 0)) :: (a31, pm_ia g 30 (fun _ => 0)) :: (a28, pm_ia g 30 (fun _ => 0)) :: (a25, pm_ia g 30 (fun _ => 0)) :: (a22, pm_ia g 30 (fun _ => 0)) :: (a19, pm_ia g 160 (fun _ => 0)) :: (a16, pm_ia g 160 (fun _ => 0)) :: (a13, pm_ia g 160 (fun _ => 0)) :: (a10, pm_ia g 160 (fun _ => 0)) :: (a7, pm_ia g 24 (fun _ => 0)) :: (a4, pm_ia g 160 (fun _ => 0)) :: (a1, pm_ia g 160 (fun _ => 0)) :: (a, pm_ob 11 [.ref a1, .ref a4, .ref a7, .ref a10, .ref a13, .ref a16, .ref a19, .int 0, .int 0, .int 0, .int 0, .int 0, .int 0, .ref a22, .ref a25, .ref a28, .ref a31, .int 0, .ref a34, .null, .null, .null, .null, .null, .int 0, .null, .null, .null]) :: ws))).Nodup := al_nd nd36 h37
  rw [show pm_up (al A ((a34, pm_ia g 30 (fun _ => 0)) :: (a31, pm_ia g 30 (fun _ => 0)) :: (a28, pm_ia g 30 (fun _ => 0)) :: (a25, pm_ia g 30 (fun _ => 0)) :: (a22, pm_ia g 30 (fun _ => 0)) :: (a19, pm_ia g 160 (fun _ => 0)) :: (a16, pm_ia g 160 (fun _ => 0)) :: (a13, pm_ia g 160 (fun _ => 0)) :: (a10, pm_ia g 160 (fun _ => 0)) :: (a7, pm_ia g 24 (fun _ => 0)) :: (a4, pm_ia g 160 (fun _ => 0)) :: (a1, pm_ia g 160 (fun _ => 0)) :: (a, pm_ob 11 [.ref a1, .ref a4, .ref a7, .ref a10, .ref a13, .ref a16, .ref a19, .int 0, .int 0, .int 0, .int 0, .int 0, .int 0, .ref a22, .ref a25, .ref a28, .ref a31, .int 0, .ref a34, .null, .null, .null, .null, .null, .int 0, .null, .null, .null]) :: ws)) a37 (pm_ia g 6400 (fun _ => 0)) = al A ((a37, pm_ia g 6400 (fun _ => 0)) :: ((a34, pm_ia g 30 (fun _ => 0)) :: (a31, pm_ia g 30 (fun _ => 0)) :: (a28, pm_ia g 30 (fun _ => 0)) :: (a25, pm_ia g 30 (fun _ => 0)) :: (a22, pm_ia g 30 (fun _ => 0)) :: (a19, pm_ia g 160 (fun _ => 0)) :: (a16, pm_ia g 160 (fun _ => 0)) :: (a13, pm_ia g 160 (fun _ => 0)) :: (a10, pm_ia g 160 (fun _ => 0)) :: (a7, pm_ia g 24 (fun _ => 0)) :: (a4, pm_ia g 160 (fun _ => 0)) :: (a1, pm_ia g 160 (fun _ => 0)) :: (a, pm_ob 11 [.ref a1, .ref a4, .ref a7, .ref a10, .ref a13, .ref a16, .ref a19, .int 0, .int 0, .int 0, .int 0, .int 0, .int 0, .ref a22, .ref a25, .ref a28, .ref a31, .int 0, .ref a34, .null, .null, .null, .null, .null, .int 0, .null, .null, .null]) :: ws)) from rfl]
  refine Exists.intro _ (And.intro (al_get (k := 13) nd38 rfl) (And.intro rfl ?_))
  rw [show pm_up (al A ((a37, pm_ia g 6400 (fun _ => 0)) :: (a34, pm_ia g 30 (fun _ => 0)) :: (a31, pm_ia g 30 (fun _ => 0)) :: (a28, pm_ia g 30 (fun _ => 0)) :: (a25, pm_ia g 30 (fun _ => 0)) :: (a22, pm_ia g 30 (fun _ => 0)) :: (a19, pm_ia g 160 (fun _ => 0)) :: (a16, pm_ia g 160 (fun _ => 0)) :: (a13, pm_ia g 160 (fun _ => 0)) :: (a10, pm_ia g 160 (fun _ => 0)) :: (a7, pm_ia g 24 (fun _ => 0)) :: (a4, pm_ia g 160 (fun _ => 0)) :: (a1, pm_ia g 160 (fun _ => 0)) :: (a, pm_ob 11 [.ref a1, .ref a4, .ref a7, .ref a10, .ref a13, .ref a16, .ref a19, .int 0, .int 0, .int 0, .int 0, .int 0, .int 0, .ref a22, .ref a25, .ref a28, .ref a31, .int 0, .ref a34, .null, .null, .null, .null, .null, .int 0, .null, .null, .null]) :: ws)) a (pm_ob 11 (([.ref a1, .ref a4, .ref a7, .ref a10, .ref a13, .ref a16, .ref a19, .int 0, .int 0, .int 0, .int 0, .int 0, .int 0, .ref a22, .ref a25, .ref a28, .ref a31, .int 0, .ref a34, .null, .null, .null, .null, .null, .int 0, .null, .null, .null] : List Value).set 19 (.ref a37))) = al A ((a37, pm_ia g 6400 (fun _ => 0)) :: (a34, pm_ia g 30 (fun _ => 0)) :: (a31, pm_ia g 30 (fun _ => 0)) :: (a28, pm_ia g 30 (fun _ => 0)) :: (a25, pm_ia g 30 (fun _ => 0)) :: (a22, pm_ia g 30 (fun _ => 0)) :: (a19, pm_ia g 160 (fun _ => 0)) :: (a16, pm_ia g 160 (fun _ => 0)) :: (a13, pm_ia g 160 (fun _ => 0)) :: (a10, pm_ia g 160 (fun _ => 0)) :: (a7, pm_ia g 24 (fun _ => 0)) :: (a4, pm_ia g 160 (fun _ => 0)) :: (a1, pm_ia g 160 (fun _ => 0)) :: (a, pm_ob 11 [.ref a1, .ref a4, .ref a7, .ref a10, .ref a13, .ref a16, .ref a19, .int 0, .int 0, .int 0, .int 0, .int 0, .int 0, .ref a22, .ref a25, .ref a28, .ref a31, .int 0, .ref a34, .ref a37, .null, .null, .null, .null, .int 0, .null, .null, .null]) :: ws) from al_set (k := 13) nd38 rfl rfl]
  have nd39 : (List.map Prod.fst ((a37, pm_ia g 6400 (fun _ => 0)) :: (a34, pm_ia g 30 (fun _ => 0)) :: (a31, pm_ia g 30 (fun _ => 0)) :: (a28, pm_ia g 30 (fun _ => 0)) :: (a25, pm_ia g 30 (fun _ => 0)) :: (a22, pm_ia g 30 (fun _ => 0)) :: (a19, pm_ia g 160 (fun _ => 0)) :: (a16, pm_ia g 160 (fun _ => 0)) :: (a13, pm_ia g 160 (fun _ => 0)) :: (a10, pm_ia g 160 (fun _ => 0)) :: (a7, pm_ia g 24 (fun _ => 0)) :: (a4, pm_ia g 160 (fun _ => 0)) :: (a1, pm_ia g 160 (fun _ => 0)) :: (a, pm_ob 11 [.ref a1, .ref a4, .ref a7, .ref a10, .ref a13, .ref a16, .ref a19, .int 0, .int 0, .int 0, .int 0, .int 0, .int 0, .ref a22, .ref a25, .ref a28, .ref a31, .int 0, .ref a34, .ref a37, .null, .null, .null, .null, .int 0, .null, .null, .null]) :: ws)).Nodup := nd38
  refine And.intro rfl (And.intro rfl (fun a40 h40 => ?_))
  have g41 := al_none h40
  have nd41 : (List.map Prod.fst ((a40, pm_ia g 6400 (fun _ => 0)) :: ((a37, pm_ia g 6400 (fun _ => 0)) :: (a34, pm_ia g 30 (fun _ => 0)) :: (a31, pm_ia g 30 (fun _ => 0)) :: (a28, pm_ia g 30 (fun _ => 0)) :: (a25, pm_ia g 30 (fun _ => 0)) :: (a22, pm_ia g 30 (fun _ => 0)) :: (a19, pm_ia g 160 (fun _ => 0)) :: (a16, pm_ia g 160 (fun _ => 0)) :: (a13, pm_ia g 160 (fun _ => 0)) :: (a10, pm_ia g 160 (fun _ => 0)) :: (a7, pm_ia g 24 (fun _ => 0)) :: (a4, pm_ia g 160 (fun _ => 0)) :: (a1, pm_ia g 160 (fun _ => 0)) :: (a, pm_ob 11 [.ref a1, .ref a4, .ref a7, .ref a10, .ref a13, .ref a16, .ref a19, .int 0, .int 0, .int 0, .int 0, .int 0, .int 0, .ref a22, .ref a25, .ref a28, .ref a31, .int 0, .ref a34, .ref a37, .null, .null, .null, .null, .int 0, .null, .null, .null]) :: ws))).Nodup := al_nd nd39 h40
  rw [show pm_up (al A ((a37, pm_ia g 6400 (fun _ => 0)) :: (a34, pm_ia g 30 (fun _ => 0)) :: (a31, pm_ia g 30 (fun _ => 0)) :: (a28, pm_ia g 30 (fun _ => 0)) :: (a25, pm_ia g 30 (fun _ => 0)) :: (a22, pm_ia g 30 (fun _ => 0)) :: (a19, pm_ia g 160 (fun _ => 0)) :: (a16, pm_ia g 160 (fun _ => 0)) :: (a13, pm_ia g 160 (fun _ => 0)) :: (a10, pm_ia g 160 (fun _ => 0)) :: (a7, pm_ia g 24 (fun _ => 0)) :: (a4, pm_ia g 160 (fun _ => 0)) :: (a1, pm_ia g 160 (fun _ => 0)) :: (a, pm_ob 11 [.ref a1, .ref a4, .ref a7, .ref a10, .ref a13, .ref a16, .ref a19, .int 0, .int 0, .int 0, .int 0, .int 0, .int 0, .ref a22, .ref a25, .ref a28, .ref a31, .int 0, .ref a34, .ref a37, .null, .null, .null, .null, .int 0, .null, .null, .null]) :: ws)) a40 (pm_ia g 6400 (fun _ => 0)) = al A ((a40, pm_ia g 6400 (fun _ => 0)) :: ((a37, pm_ia g 6400 (fun _ => 0)) :: (a34, pm_ia g 30 (fun _ => 0)) :: (a31, pm_ia g 30 (fun _ => 0)) :: (a28, pm_ia g 30 (fun _ => 0)) :: (a25, pm_ia g 30 (fun _ => 0)) :: (a22, pm_ia g 30 (fun _ => 0)) :: (a19, pm_ia g 160 (fun _ => 0)) :: (a16, pm_ia g 160 (fun _ => 0)) :: (a13, pm_ia g 160 (fun _ => 0)) :: (a10, pm_ia g 160 (fun _ => 0)) :: (a7, pm_ia g 24 (fun _ => 0)) :: (a4, pm_ia g 160 (fun _ => 0)) :: (a1, pm_ia g 160 (fun _ => 0)) :: (a, pm_ob 11 [.ref a1, .ref a4, .ref a7, .ref a10, .ref a13, .ref a16, .ref a19, .int 0, .int 0, .int 0, .int 0, .int 0, .int 0, .ref a22, .ref a25, .ref a28, .ref a31, .int 0, .ref a34, .ref a37, .null, .null, .null, .null, .int 0, .null, .null, .null]) :: ws)) from rfl]
  refine Exists.intro _ (And.intro (al_get (k := 14) nd41 rfl) (And.intro rfl ?_))
  rw [show pm_up (al A ((a40, pm_ia g 6400 (fun _ => 0)) :: (a37, pm_ia g 6400 (fun _ => 0)) :: (a34, pm_ia g 30 (fun _ => 0)) :: (a31, pm_ia g 30 (fun _ => 0)) :: (a28, pm_ia g 30 (fun _ => 0)) :: (a25, pm_ia g 30 (fun _ => 0)) :: (a22, pm_ia g 30 (fun _ => 0)) :: (a19, pm_ia g 160 (fun _ => 0)) :: (a16, pm_ia g 160 (fun _ => 0)) :: (a13, pm_ia g 160 (fun _ => 0)) :: (a10, pm_ia g 160 (fun _ => 0)) :: (a7, pm_ia g 24 (fun _ => 0)) :: (a4, pm_ia g 160 (fun _ => 0)) :: (a1, pm_ia g 160 (fun _ => 0)) :: (a, pm_ob 11 [.ref a1, .ref a4, .ref a7, .ref a10, .ref a13, .ref a16, .ref a19, .int 0, .int 0, .int 0, .int 0, .int 0, .int 0, .ref a22, .ref a25, .ref a28, .ref a31, .int 0, .ref a34, .ref a37, .null, .null, .null, .null, .int 0, .null, .null, .null]) :: ws)) a (pm_ob 11 (([.ref a1, .ref a4, .ref a7, .ref a10, .ref a13, .ref a16, .ref a19, .int 0, .int 0, .int 0, .int 0, .int 0, .int 0, .ref a22, .ref a25, .ref a28, .ref a31, .int 0, .ref a34, .ref a37, .null, .null, .null, .null, .int 0, .null, .null, .null] : List Value).set 20 (.ref a40))) = al A ((a40, pm_ia g 6400 (fun _ => 0)) :: (a37, pm_ia g 6400 (fun _ => 0)) :: (a34, pm_ia g 30 (fun _ => 0)) :: (a31, pm_ia g 30 (fun _ => 0)) :: (a28, pm_ia g 30 (fun _ => 0)) :: (a25, pm_ia g 30 (fun _ => 0)) :: (a22, pm_ia g 30 (fun _ => 0)) :: (a19, pm_ia g 160 (fun _ => 0)) :: (a16, pm_ia g 160 (fun _ => 0)) :: (a13, pm_ia g 160 (fun _ => 0)) :: (a10, pm_ia g 160 (fun _ => 0)) :: (a7, pm_ia g 24 (fun _ => 0)) :: (a4, pm_ia g 160 (fun _ => 0)) :: (a1, pm_ia g 160 (fun _ => 0)) :: (a, pm_ob 11 [.ref a1, .ref a4, .ref a7, .ref a10, .ref a13, .ref a16, .ref a19, .int 0, .int 0, .int 0, .int 0, .int 0, .int 0, .ref a22, .ref a25, .ref a28, .ref a31, .int 0, .ref a34, .ref a37, .ref a40, .null, .null, .null, .int 0, .null, .null, .null]) :: ws) from al_set (k := 14) nd41 rfl rfl]
  have nd42 : (List.map Prod.fst ((a40, pm_ia g 6400 (fun _ => 0)) :: (a37, pm_ia g 6400 (fun _ => 0)) :: (a34, pm_ia g 30 (fun _ => 0)) :: (a31, pm_ia g 30 (fun _ => 0)) :: (a28, pm_ia g 30 (fun _ => 0)) :: (a25, pm_ia g 30 (fun _ => 0)) :: (a22, pm_ia g 30 (fun _ => 0)) :: (a19, pm_ia g 160 (fun _ => 0)) :: (a16, pm_ia g 160 (fun _ => 0)) :: (a13, pm_ia g 160 (fun _ => 0)) :: (a10, pm_ia g 160 (fun _ => 0)) :: (a7, pm_ia g 24 (fun _ => 0)) :: (a4, pm_ia g 160 (fun _ => 0)) :: (a1, pm_ia g 160 (fun _ => 0)) :: (a, pm_ob 11 [.ref a1, .ref a4, .ref a7, .ref a10, .ref a13, .ref a16, .ref a19, .int 0, .int 0, .int 0, .int 0, .int 0, .int 0, .ref a22, .ref a25, .ref a28, .ref a31, .int 0, .ref a34, .ref a37, .ref a40, .null, .null, .null, .int 0, .null, .null, .null]) :: ws)).Nodup := nd41
  refine And.intro rfl (And.intro rfl (fun a43 h43 => ?_))
  have g44 := al_none h43
  have nd44 : (List.map Prod.fst ((a43, pm_ia g 40 (fun _ => 0)) :: ((a40, pm_ia g 6400 (fun _ => 0)) :: (a37, pm_ia g 6400 (fun _ => 0)) :: (a34, pm_ia g 30 (fun _ => 0)) :: (a31, pm_ia g 30 (fun _ => 0)) :: (a28, pm_ia g 30 (fun _ => 0)) :: (a25, pm_ia g 30 (fun _ => 0)) :: (a22, pm_ia g 30 (fun _ => 0)) :: (a19, pm_ia g 160 (fun _ => 0)) :: (a16, pm_ia g 160 (fun _ => 0)) :: (a13, pm_ia g 160 (fun _ => 0)) :: (a10, pm_ia g 160 (fun _ => 0)) :: (a7, pm_ia g 24 (fun _ => 0)) :: (a4, pm_ia g 160 (fun _ => 0)) :: (a1, pm_ia g 160 (fun _ => 0)) :: (a, pm_ob 11 [.ref a1, .ref a4, .ref a7, .ref a10, .ref a13, .ref a16, .ref a19, .int 0, .int 0, .int 0, .int 0, .int 0, .int 0, .ref a22, .ref a25, .ref a28, .ref a31, .int 0, .ref a34, .ref a37, .ref a40, .null, .null, .null, .int 0, .null, .null, .null]) :: ws))).Nodup := al_nd nd42 h43
  rw [show pm_up (al A ((a40, pm_ia g 6400 (fun _ => 0)) :: (a37, pm_ia g 6400 (fun _ => 0)) :: (a34, pm_ia g 30 (fun _ => 0)) :: (a31, pm_ia g 30 (fun _ => 0)) :: (a28, pm_ia g 30 (fun _ => 0)) :: (a25, pm_ia g 30 (fun _ => 0)) :: (a22, pm_ia g 30 (fun _ => 0)) :: (a19, pm_ia g 160 (fun _ => 0)) :: (a16, pm_ia g 160 (fun _ => 0)) :: (a13, pm_ia g 160 (fun _ => 0)) :: (a10, pm_ia g 160 (fun _ => 0)) :: (a7, pm_ia g 24 (fun _ => 0)) :: (a4, pm_ia g 160 (fun _ => 0)) :: (a1, pm_ia g 160 (fun _ => 0)) :: (a, pm_ob 11 [.ref a1, .ref a4, .ref a7, .ref a10, .ref a13, .ref a16, .ref a19, .int 0, .int 0, .int 0, .int 0, .int 0, .int 0, .ref a22, .ref a25, .ref a28, .ref a31, .int 0, .ref a34, .ref a37, .ref a40, .null, .null, .null, .int 0, .null, .null, .null]) :: ws)) a43 (pm_ia g 40 (fun _ => 0)) = al A ((a43, pm_ia g 40 (fun _ => 0)) :: ((a40, pm_ia g 6400 (fun _ => 0)) :: (a37, pm_ia g 6400 (fun _ => 0)) :: (a34, pm_ia g 30 (fun _ => 0)) :: (a31, pm_ia g 30 (fun _ => 0)) :: (a28, pm_ia g 30 (fun _ => 0)) :: (a25, pm_ia g 30 (fun _ => 0)) :: (a22, pm_ia g 30 (fun _ => 0)) :: (a19, pm_ia g 160 (fun _ => 0)) :: (a16, pm_ia g 160 (fun _ => 0)) :: (a13, pm_ia g 160 (fun _ => 0)) :: (a10, pm_ia g 160 (fun _ => 0)) :: (a7, pm_ia g 24 (fun _ => 0)) :: (a4, pm_ia g 160 (fun _ => 0)) :: (a1, pm_ia g 160 (fun _ => 0)) :: (a, pm_ob 11 [.ref a1, .ref a4, .ref a7, .ref a10, .ref a13, .ref a16, .ref a19, .int 0, .int 0, .int 0, .int 0, .int 0, .int 0, .ref a22, .ref a25, .ref a28, .ref a31, .int 0, .ref a34, .ref a37, .ref a40, .null, .null, .null, .int 0, .null, .null, .null]) :: ws)) from rfl]
  refine Exists.intro _ (And.intro (al_get (k := 15) nd44 rfl) (And.intro rfl ?_))
  rw [show pm_up (al A ((a43, pm_ia g 40 (fun _ => 0)) :: (a40, pm_ia g 6400 (fun _ => 0)) :: (a37, pm_ia g 6400 (fun _ => 0)) :: (a34, pm_ia g 30 (fun _ => 0)) :: (a31, pm_ia g 30 (fun _ => 0)) :: (a28, pm_ia g 30 (fun _ => 0)) :: (a25, pm_ia g 30 (fun _ => 0)) :: (a22, pm_ia g 30 (fun _ => 0)) :: (a19, pm_ia g 160 (fun _ => 0)) :: (a16, pm_ia g 160 (fun _ => 0)) :: (a13, pm_ia g 160 (fun _ => 0)) :: (a10, pm_ia g 160 (fun _ => 0)) :: (a7, pm_ia g 24 (fun _ => 0)) :: (a4, pm_ia g 160 (fun _ => 0)) :: (a1, pm_ia g 160 (fun _ => 0)) :: (a, pm_ob 11 [.ref a1, .ref a4, .ref a7, .ref a10, .ref a13, .ref a16, .ref a19, .int 0, .int 0, .int 0, .int 0, .int 0, .int 0, .ref a22, .ref a25, .ref a28, .ref a31, .int 0, .ref a34, .ref a37, .ref a40, .null, .null, .null, .int 0, .null, .null, .null]) :: ws)) a (pm_ob 11 (([.ref a1, .ref a4, .ref a7, .ref a10, .ref a13, .ref a16, .ref a19, .int 0, .int 0, .int 0, .int 0, .int 0, .int 0, .ref a22, .ref a25, .ref a28, .ref a31, .int 0, .ref a34, .ref a37, .ref a40, .null, .null, .null, .int 0, .null, .null, .null] : List Value).set 21 (.ref a43))) = al A ((a43, pm_ia g 40 (fun _ => 0)) :: (a40, pm_ia g 6400 (fun _ => 0)) :: (a37, pm_ia g 6400 (fun _ => 0)) :: (a34, pm_ia g 30 (fun _ => 0)) :: (a31, pm_ia g 30 (fun _ => 0)) :: (a28, pm_ia g 30 (fun _ => 0)) :: (a25, pm_ia g 30 (fun _ => 0)) :: (a22, pm_ia g 30 (fun _ => 0)) :: (a19, pm_ia g 160 (fun _ => 0)) :: (a16, pm_ia g 160 (fun _ => 0)) :: (a13, pm_ia g 160 (fun _ => 0)) :: (a10, pm_ia g 160 (fun _ => 0)) :: (a7, pm_ia g 24 (fun _ => 0)) :: (a4, pm_ia g 160 (fun _ => 0)) :: (a1, pm_ia g 160 (fun _ => 0)) :: (a, pm_ob 11 [.ref a1, .ref a4, .ref a7, .ref a10, .ref a13, .ref a16, .ref a19, .int 0, .int 0, .int 0, .int 0, .int 0, .int 0, .ref a22, .ref a25, .ref a28, .ref a31, .int 0, .ref a34, .ref a37, .ref a40, .ref a43, .null, .null, .int 0, .null, .null, .null]) :: ws) from al_set (k := 15) nd44 rfl rfl]
  have nd45 : (List.map Prod.fst ((a43, pm_ia g 40 (fun _ => 0)) :: (a40, pm_ia g 6400 (fun _ => 0)) :: (a37, pm_ia g 6400 (fun _ => 0)) :: (a34, pm_ia g 30 (fun _ => 0)) :: (a31, pm_ia g 30 (fun _ => 0)) :: (a28, pm_ia g 30 (fun _ => 0)) :: (a25, pm_ia g 30 (fun _ => 0)) :: (a22, pm_ia g 30 (fun _ => 0)) :: (a19, pm_ia g 160 (fun _ => 0)) :: (a16, pm_ia g 160 (fun _ => 0)) :: (a13, pm_ia g 160 (fun _ => 0)) :: (a10, pm_ia g 160 (fun _ => 0)) :: (a7, pm_ia g 24 (fun _ => 0)) :: (a4, pm_ia g 160 (fun _ => 0)) :: (a1, pm_ia g 160 (fun _ => 0)) :: (a, pm_ob 11 [.ref a1, .ref a4, .ref a7, .ref a10, .ref a13, .ref a16, .ref a19, .int 0, .int 0, .int 0, .int 0, .int 0, .int 0, .ref a22, .ref a25, .ref a28, .ref a31, .int 0, .ref a34, .ref a37, .ref a40, .ref a43, .null, .null, .int 0, .null, .null, .null]) :: ws)).Nodup := nd44
  refine And.intro rfl (And.intro rfl (fun a46 h46 => ?_))
  have g47 := al_none h46
  have nd47 : (List.map Prod.fst ((a46, pm_ia g 40 (fun _ => 0)) :: ((a43, pm_ia g 40 (fun _ => 0)) :: (a40, pm_ia g 6400 (fun _ => 0)) :: (a37, pm_ia g 6400 (fun _ => 0)) :: (a34, pm_ia g 30 (fun _ => 0)) :: (a31, pm_ia g 30 (fun _ => 0)) :: (a28, pm_ia g 30 (fun _ => 0)) :: (a25, pm_ia g 30 (fun _ => 0)) :: (a22, pm_ia g 30 (fun _ => 0)) :: (a19, pm_ia g 160 (fun _ => 0)) :: (a16, pm_ia g 160 (fun _ => 0)) :: (a13, pm_ia g 160 (fun _ => 0)) :: (a10, pm_ia g 160 (fun _ => 0)) :: (a7, pm_ia g 24 (fun _ => 0)) :: (a4, pm_ia g 160 (fun _ => 0)) :: (a1, pm_ia g 160 (fun _ => 0)) :: (a, pm_ob 11 [.ref a1, .ref a4, .ref a7, .ref a10, .ref a13, .ref a16, .ref a19, .int 0, .int 0, .int 0, .int 0, .int 0, .int 0, .ref a22, .ref a25, .ref a28, .ref a31, .int 0, .ref a34, .ref a37, .ref a40, .ref a43, .null, .null, .int 0, .null, .null, .null]) :: ws))).Nodup := al_nd nd45 h46
  rw [show pm_up (al A ((a43, pm_ia g 40 (fun _ => 0)) :: (a40, pm_ia g 6400 (fun _ => 0)) :: (a37, pm_ia g 6400 (fun _ => 0)) :: (a34, pm_ia g 30 (fun _ => 0)) :: (a31, pm_ia g 30 (fun _ => 0)) :: (a28, pm_ia g 30 (fun _ => 0)) :: (a25, pm_ia g 30 (fun _ => 0)) :: (a22, pm_ia g 30 (fun _ => 0)) :: (a19, pm_ia g 160 (fun _ => 0)) :: (a16, pm_ia g 160 (fun _ => 0)) :: (a13, pm_ia g 160 (fun _ => 0)) :: (a10, pm_ia g 160 (fun _ => 0)) :: (a7, pm_ia g 24 (fun _ => 0)) :: (a4, pm_ia g 160 (fun _ => 0)) :: (a1, pm_ia g 160 (fun _ => 0)) :: (a, pm_ob 11 [.ref a1, .ref a4, .ref a7, .ref a10, .ref a13, .ref a16, .ref a19, .int 0, .int 0, .int 0, .int 0, .int 0, .int 0, .ref a22, .ref a25, .ref a28, .ref a31, .int 0, .ref a34, .ref a37, .ref a40, .ref a43, .null, .null, .int 0, .null, .null, .null]) :: ws)) a46 (pm_ia g 40 (fun _ => 0)) = al A ((a46, pm_ia g 40 (fun _ => 0)) :: ((a43, pm_ia g 40 (fun _ => 0)) :: (a40, pm_ia g 6400 (fun _ => 0)) :: (a37, pm_ia g 6400 (fun _ => 0)) :: (a34, pm_ia g 30 (fun _ => 0)) :: (a31, pm_ia g 30 (fun _ => 0)) :: (a28, pm_ia g 30 (fun _ => 0)) :: (a25, pm_ia g 30 (fun _ => 0)) :: (a22, pm_ia g 30 (fun _ => 0)) :: (a19, pm_ia g 160 (fun _ => 0)) :: (a16, pm_ia g 160 (fun _ => 0)) :: (a13, pm_ia g 160 (fun _ => 0)) :: (a10, pm_ia g 160 (fun _ => 0)) :: (a7, pm_ia g 24 (fun _ => 0)) :: (a4, pm_ia g 160 (fun _ => 0)) :: (a1, pm_ia g 160 (fun _ => 0)) :: (a, pm_ob 11 [.ref a1, .ref a4, .ref a7, .ref a10, .ref a13, .ref a16, .ref a19, .int 0, .int 0, .int 0, .int 0, .int 0, .int 0, .ref a22, .ref a25, .ref a28, .ref a31, .int 0, .ref a34, .ref a37, .ref a40, .ref a43, .null, .null, .int 0, .null, .null, .null]) :: ws)) from rfl]
  refine Exists.intro _ (And.intro (al_get (k := 16) nd47 rfl) (And.intro rfl ?_))
  rw [show pm_up (al A ((a46, pm_ia g 40 (fun _ => 0)) :: (a43, pm_ia g 40 (fun _ => 0)) :: (a40, pm_ia g 6400 (fun _ => 0)) :: (a37, pm_ia g 6400 (fun _ => 0)) :: (a34, pm_ia g 30 (fun _ => 0)) :: (a31, pm_ia g 30 (fun _ => 0)) :: (a28, pm_ia g 30 (fun _ => 0)) :: (a25, pm_ia g 30 (fun _ => 0)) :: (a22, pm_ia g 30 (fun _ => 0)) :: (a19, pm_ia g 160 (fun _ => 0)) :: (a16, pm_ia g 160 (fun _ => 0)) :: (a13, pm_ia g 160 (fun _ => 0)) :: (a10, pm_ia g 160 (fun _ => 0)) :: (a7, pm_ia g 24 (fun _ => 0)) :: (a4, pm_ia g 160 (fun _ => 0)) :: (a1, pm_ia g 160 (fun _ => 0)) :: (a, pm_ob 11 [.ref a1, .ref a4, .ref a7, .ref a10, .ref a13, .ref a16, .ref a19, .int 0, .int 0, .int 0, .int 0, .int 0, .int 0, .ref a22, .ref a25, .ref a28, .ref a31, .int 0, .ref a34, .ref a37, .ref a40, .ref a43, .null, .null, .int 0, .null, .null, .null]) :: ws)) a (pm_ob 11 (([.ref a1, .ref a4, .ref a7, .ref a10, .ref a13, .ref a16, .ref a19, .int 0, .int 0, .int 0, .int 0, .int 0, .int 0, .ref a22, .ref a25, .ref a28, .ref a31, .int 0, .ref a34, .ref a37, .ref a40, .ref a43, .null, .null, .int 0, .null, .null, .null] : List Value).set 22 (.ref a46))) = al A ((a46, pm_ia g 40 (fun _ => 0)) :: (a43, pm_ia g 40 (fun _ => 0)) :: (a40, pm_ia g 6400 (fun _ => 0)) :: (a37, pm_ia g 6400 (fun _ => 0)) :: (a34, pm_ia g 30 (fun _ => 0)) :: (a31, pm_ia g 30 (fun _ => 0)) :: (a28, pm_ia g 30 (fun _ => 0)) :: (a25, pm_ia g 30 (fun _ => 0)) :: (a22, pm_ia g 30 (fun _ => 0)) :: (a19, pm_ia g 160 (fun _ => 0)) :: (a16, pm_ia g 160 (fun _ => 0)) :: (a13, pm_ia g 160 (fun _ => 0)) :: (a10, pm_ia g 160 (fun _ => 0)) :: (a7, pm_ia g 24 (fun _ => 0)) :: (a4, pm_ia g 160 (fun _ => 0)) :: (a1, pm_ia g 160 (fun _ => 0)) :: (a, pm_ob 11 [.ref a1, .ref a4, .ref a7, .ref a10, .ref a13, .ref a16, .ref a19, .int 0, .int 0, .int 0, .int 0, .int 0, .int 0, .ref a22, .ref a25, .ref a28, .ref a31, .int 0, .ref a34, .ref a37, .ref a40, .ref a43, .ref a46, .null, .int 0, .null, .null, .null]) :: ws) from al_set (k := 16) nd47 rfl rfl]
  have nd48 : (List.map Prod.fst ((a46, pm_ia g 40 (fun _ => 0)) :: (a43, pm_ia g 40 (fun _ => 0)) :: (a40, pm_ia g 6400 (fun _ => 0)) :: (a37, pm_ia g 6400 (fun _ => 0)) :: (a34, pm_ia g 30 (fun _ => 0)) :: (a31, pm_ia g 30 (fun _ => 0)) :: (a28, pm_ia g 30 (fun _ => 0)) :: (a25, pm_ia g 30 (fun _ => 0)) :: (a22, pm_ia g 30 (fun _ => 0)) :: (a19, pm_ia g 160 (fun _ => 0)) :: (a16, pm_ia g 160 (fun _ => 0)) :: (a13, pm_ia g 160 (fun _ => 0)) :: (a10, pm_ia g 160 (fun _ => 0)) :: (a7, pm_ia g 24 (fun _ => 0)) :: (a4, pm_ia g 160 (fun _ => 0)) :: (a1, pm_ia g 160 (fun _ => 0)) :: (a, pm_ob 11 [.ref a1, .ref a4, .ref a7, .ref a10, .ref a13, .ref a16, .ref a19, .int 0, .int 0, .int 0, .int 0, .int 0, .int 0, .ref a22, .ref a25, .ref a28, .ref a31, .int 0, .ref a34, .ref a37, .ref a40, .ref a43, .ref a46, .null, .int 0, .null, .null, .null]) :: ws)).Nodup := nd47
  refine And.intro rfl (And.intro rfl (fun a49 h49 => ?_))
  have g50 := al_none h49
  have nd50 : (List.map Prod.fst ((a49, pm_ia g 24 (fun _ => 0)) :: ((a46, pm_ia g 40 (fun _ => 0)) :: (a43, pm_ia g 40 (fun _ => 0)) :: (a40, pm_ia g 6400 (fun _ => 0)) :: (a37, pm_ia g 6400 (fun _ => 0)) :: (a34, pm_ia g 30 (fun _ => 0)) :: (a31, pm_ia g 30 (fun _ => 0)) :: (a28, pm_ia g 30 (fun _ => 0)) :: (a25, pm_ia g 30 (fun _ => 0)) :: (a22, pm_ia g 30 (fun _ => 0)) :: (a19, pm_ia g 160 (fun _ => 0)) :: (a16, pm_ia g 160 (fun _ => 0)) :: (a13, pm_ia g 160 (fun _ => 0)) :: (a10, pm_ia g 160 (fun _ => 0)) :: (a7, pm_ia g 24 (fun _ => 0)) :: (a4, pm_ia g 160 (fun _ => 0)) :: (a1, pm_ia g 160 (fun _ => 0)) :: (a, pm_ob 11 [.ref a1, .ref a4, .ref a7, .ref a10, .ref a13, .ref a16, .ref a19, .int 0, .int 0, .int 0, .int 0, .int 0, .int 0, .ref a22, .ref a25, .ref a28, .ref a31, .int 0, .ref a34, .ref a37, .ref a40, .ref a43, .ref a46, .null, .int 0, .null, .null, .null]) :: ws))).Nodup := al_nd nd48 h49
  rw [show pm_up (al A ((a46, pm_ia g 40 (fun _ => 0)) :: (a43, pm_ia g 40 (fun _ => 0)) :: (a40, pm_ia g 6400 (fun _ => 0)) :: (a37, pm_ia g 6400 (fun _ => 0)) :: (a34, pm_ia g 30 (fun _ => 0)) :: (a31, pm_ia g 30 (fun _ => 0)) :: (a28, pm_ia g 30 (fun _ => 0)) :: (a25, pm_ia g 30 (fun _ => 0)) :: (a22, pm_ia g 30 (fun _ => 0)) :: (a19, pm_ia g 160 (fun _ => 0)) :: (a16, pm_ia g 160 (fun _ => 0)) :: (a13, pm_ia g 160 (fun _ => 0)) :: (a10, pm_ia g 160 (fun _ => 0)) :: (a7, pm_ia g 24 (fun _ => 0)) :: (a4, pm_ia g 160 (fun _ => 0)) :: (a1, pm_ia g 160 (fun _ => 0)) :: (a, pm_ob 11 [.ref a1, .ref a4, .ref a7, .ref a10, .ref a13, .ref a16, .ref a19, .int 0, .int 0, .int 0, .int 0, .int 0, .int 0, .ref a22, .ref a25, .ref a28, .ref a31, .int 0, .ref a34, .ref a37, .ref a40, .ref a43, .ref a46, .null, .int 0, .null, .null, .null]) :: ws)) a49 (pm_ia g 24 (fun _ => 0)) = al A ((a49, pm_ia g 24 (fun _ => 0)) :: ((a46, pm_ia g 40 (fun _ => 0)) :: (a43, pm_ia g 40 (fun _ => 0)) :: (a40, pm_ia g 6400 (fun _ => 0)) :: (a37, pm_ia g 6400 (fun _ => 0)) :: (a34, pm_ia g 30 (fun _ => 0)) :: (a31, pm_ia g 30 (fun _ => 0)) :: (a28, pm_ia g 30 (fun _ => 0)) :: (a25, pm_ia g 30 (fun _ => 0)) :: (a22, pm_ia g 30 (fun _ => 0)) :: (a19, pm_ia g 160 (fun _ => 0)) :: (a16, pm_ia g 160 (fun _ => 0)) :: (a13, pm_ia g 160 (fun _ => 0)) :: (a10, pm_ia g 160 (fun _ => 0)) :: (a7, pm_ia g 24 (fun _ => 0)) :: (a4, pm_ia g 160 (fun _ => 0)) :: (a1, pm_ia g 160 (fun _ => 0)) :: (a, pm_ob 11 [.ref a1, .ref a4, .ref a7, .ref a10, .ref a13, .ref a16, .ref a19, .int 0, .int 0, .int 0, .int 0, .int 0, .int 0, .ref a22, .ref a25, .ref a28, .ref a31, .int 0, .ref a34, .ref a37, .ref a40, .ref a43, .ref a46, .null, .int 0, .null, .null, .null]) :: ws)) from rfl]
  refine Exists.intro _ (And.intro (al_get (k := 17) nd50 rfl) (And.intro rfl ?_))
  rw [show pm_up (al A ((a49, pm_ia g 24 (fun _ => 0)) :: (a46, pm_ia g 40 (fun _ => 0)) :: (a43, pm_ia g 40 (fun _ => 0)) :: (a40, pm_ia g 6400 (fun _ => 0)) :: (a37, pm_ia g 6400 (fun _ => 0)) :: (a34, pm_ia g 30 (fun _ => 0)) :: (a31, pm_ia g 30 (fun _ => 0)) :: (a28, pm_ia g 30 (fun _ => 0)) :: (a25, pm_ia g 30 (fun _ => 0)) :: (a22, pm_ia g 30 (fun _ => 0)) :: (a19, pm_ia g 160 (fun _ => 0)) :: (a16, pm_ia g 160 (fun _ => 0)) :: (a13, pm_ia g 160 (fun _ => 0)) :: (a10, pm_ia g 160 (fun _ => 0)) :: (a7, pm_ia g 24 (fun _ => 0)) :: (a4, pm_ia g 160 (fun _ => 0)) :: (a1, pm_ia g 160 (fun _ => 0)) :: (a, pm_ob 11 [.ref a1, .ref a4, .ref a7, .ref a10, .ref a13, .ref a16, .ref a19, .int 0, .int 0, .int 0, .int 0, .int 0, .int 0, .ref a22, .ref a25, .ref a28, .ref a31, .int 0, .ref a34, .ref a37, .ref a40, .ref a43, .ref a46, .null, .int 0, .null, .null, .null]) :: ws)) a (pm_ob 11 (([.ref a1, .ref a4, .ref a7, .ref a10, .ref a13, .ref a16, .ref a19, .int 0, .int 0, .int 0, .int 0, .int 0, .int 0, .ref a22, .ref a25, .ref a28, .ref a31, .int 0, .ref a34, .ref a37, .ref a40, .ref a43, .ref a46, .null, .int 0, .null, .null, .null] : List Value).set 23 (.ref a49))) = al A ((a49, pm_ia g 24 (fun _ => 0)) :: (a46, pm_ia g 40 (fun _ => 0)) :: (a43, pm_ia g 40 (fun _ => 0)) :: (a40, pm_ia g 6400 (fun _ => 0)) :: (a37, pm_ia g 6400 (fun _ => 0)) :: (a34, pm_ia g 30 (fun _ => 0)) :: (a31, pm_ia g 30 (fun _ => 0)) :: (a28, pm_ia g 30 (fun _ => 0)) :: (a25, pm_ia g 30 (fun _ => 0)) :: (a22, pm_ia g 30 (fun _ => 0)) :: (a19, pm_ia g 160 (fun _ => 0)) :: (a16, pm_ia g 160 (fun _ => 0)) :: (a13, pm_ia g 160 (fun _ => 0)) :: (a10, pm_ia g 160 (fun _ => 0)) :: (a7, pm_ia g 24 (fun _ => 0)) :: (a4, pm_ia g 160 (fun _ => 0)) :: (a1, pm_ia g 160 (fun _ => 0)) :: (a, pm_ob 11 [.ref a1, .ref a4, .ref a7, .ref a10, .ref a13, .ref a16, .ref a19, .int 0, .int 0, .int 0, .int 0, .int 0, .int 0, .ref a22, .ref a25, .ref a28, .ref a31, .int 0, .ref a34, .ref a37, .ref a40, .ref a43, .ref a46, .ref a49, .int 0, .null, .null, .null]) :: ws) from al_set (k := 17) nd50 rfl rfl]
  have nd51 : (List.map Prod.fst ((a49, pm_ia g 24 (fun _ => 0)) :: (a46, pm_ia g 40 (fun _ => 0)) :: (a43, pm_ia g 40 (fun _ => 0)) :: (a40, pm_ia g 6400 (fun _ => 0)) :: (a37, pm_ia g 6400 (fun _ => 0)) :: (a34, pm_ia g 30 (fun _ => 0)) :: (a31, pm_ia g 30 (fun _ => 0)) :: (a28, pm_ia g 30 (fun _ => 0)) :: (a25, pm_ia g 30 (fun _ => 0)) :: (a22, pm_ia g 30 (fun _ => 0)) :: (a19, pm_ia g 160 (fun _ => 0)) :: (a16, pm_ia g 160 (fun _ => 0)) :: (a13, pm_ia g 160 (fun _ => 0)) :: (a10, pm_ia g 160 (fun _ => 0)) :: (a7, pm_ia g 24 (fun _ => 0)) :: (a4, pm_ia g 160 (fun _ => 0)) :: (a1, pm_ia g 160 (fun _ => 0)) :: (a, pm_ob 11 [.ref a1, .ref a4, .ref a7, .ref a10, .ref a13, .ref a16, .ref a19, .int 0, .int 0, .int 0, .int 0, .int 0, .int 0, .ref a22, .ref a25, .ref a28, .ref a31, .int 0, .ref a34, .ref a37, .ref a40, .ref a43, .ref a46, .ref a49, .int 0, .null, .null, .null]) :: ws)).Nodup := nd50
  refine And.intro rfl (And.intro rfl (fun a52 h52 => ?_))
  have g53 := al_none h52
  have nd53 : (List.map Prod.fst ((a52, pm_ia g 160 (fun _ => 0)) :: ((a49, pm_ia g 24 (fun _ => 0)) :: (a46, pm_ia g 40 (fun _ => 0)) :: (a43, pm_ia g 40 (fun _ => 0)) :: (a40, pm_ia g 6400 (fun _ => 0)) :: (a37, pm_ia g 6400 (fun _ => 0)) :: (a34, pm_ia g 30 (fun _ => 0)) :: (a31, pm_ia g 30 (fun _ => 0)) :: (a28, pm_ia g 30 (fun _ => 0)) :: (a25, pm_ia g 30 (fun _ => 0)) :: (a22, pm_ia g 30 (fun _ => 0)) :: (a19, pm_ia g 160 (fun _ => 0)) :: (a16, pm_ia g 160 (fun _ => 0)) :: (a13, pm_ia g 160 (fun _ => 0)) :: (a10, pm_ia g 160 (fun _ => 0)) :: (a7, pm_ia g 24 (fun _ => 0)) :: (a4, pm_ia g 160 (fun _ => 0)) :: (a1, pm_ia g 160 (fun _ => 0)) :: (a, pm_ob 11 [.ref a1, .ref a4, .ref a7, .ref a10, .ref a13, .ref a16, .ref a19, .int 0, .int 0, .int 0, .int 0, .int 0, .int 0, .ref a22, .ref a25, .ref a28, .ref a31, .int 0, .ref a34, .ref a37, .ref a40, .ref a43, .ref a46, .ref a49, .int 0, .null, .null, .null]) :: ws))).Nodup := al_nd nd51 h52
  rw [show pm_up (al A ((a49, pm_ia g 24 (fun _ => 0)) :: (a46, pm_ia g 40 (fun _ => 0)) :: (a43, pm_ia g 40 (fun _ => 0)) :: (a40, pm_ia g 6400 (fun _ => 0)) :: (a37, pm_ia g 6400 (fun _ => 0)) :: (a34, pm_ia g 30 (fun _ => 0)) :: (a31, pm_ia g 30 (fun _ => 0)) :: (a28, pm_ia g 30 (fun _ => 0)) :: (a25, pm_ia g 30 (fun _ => 0)) :: (a22, pm_ia g 30 (fun _ => 0)) :: (a19, pm_ia g 160 (fun _ => 0)) :: (a16, pm_ia g 160 (fun _ => 0)) :: (a13, pm_ia g 160 (fun _ => 0)) :: (a10, pm_ia g 160 (fun _ => 0)) :: (a7, pm_ia g 24 (fun _ => 0)) :: (a4, pm_ia g 160 (fun _ => 0)) :: (a1, pm_ia g 160 (fun _ => 0)) :: (a, pm_ob 11 [.ref a1, .ref a4, .ref a7, .ref a10, .ref a13, .ref a16, .ref a19, .int 0, .int 0, .int 0, .int 0, .int 0, .int 0, .ref a22, .ref a25, .ref a28, .ref a31, .int 0, .ref a34, .ref a37, .ref a40, .ref a43, .ref a46, .ref a49, .int 0, .null, .null, .null]) :: ws)) a52 (pm_ia g 160 (fun _ => 0)) = al A ((a52, pm_ia g 160 (fun _ => 0)) :: ((a49, pm_ia g 24 (fun _ => 0)) :: (a46, pm_ia g 40 (fun _ => 0)) :: (a43, pm_ia g 40 (fun _ => 0)) :: (a40, pm_ia g 6400 (fun _ => 0)) :: (a37, pm_ia g 6400 (fun _ => 0)) :: (a34, pm_ia g 30 (fun _ => 0)) :: (a31, pm_ia g 30 (fun _ => 0)) :: (a28, pm_ia g 30 (fun _ => 0)) :: (a25, pm_ia g 30 (fun _ => 0)) :: (a22, pm_ia g 30 (fun _ => 0)) :: (a19, pm_ia g 160 (fun _ => 0)) :: (a16, pm_ia g 160 (fun _ => 0)) :: (a13, pm_ia g 160 (fun _ => 0)) :: (a10, pm_ia g 160 (fun _ => 0)) :: (a7, pm_ia g 24 (fun _ => 0)) :: (a4, pm_ia g 160 (fun _ => 0)) :: (a1, pm_ia g 160 (fun _ => 0)) :: (a, pm_ob 11 [.ref a1, .ref a4, .ref a7, .ref a10, .ref a13, .ref a16, .ref a19, .int 0, .int 0, .int 0, .int 0, .int 0, .int 0, .ref a22, .ref a25, .ref a28, .ref a31, .int 0, .ref a34, .ref a37, .ref a40, .ref a43, .ref a46, .ref a49, .int 0, .null, .null, .null]) :: ws)) from rfl]
  refine Exists.intro _ (And.intro (al_get (k := 18) nd53 rfl) (And.intro rfl ?_))
  rw [show pm_up (al A ((a52, pm_ia g 160 (fun _ => 0)) :: (a49, pm_ia g 24 (fun _ => 0)) :: (a46, pm_ia g 40 (fun _ => 0)) :: (a43, pm_ia g 40 (fun _ => 0)) :: (a40, pm_ia g 6400 (fun _ => 0)) :: (a37, pm_ia g 6400 (fun _ => 0)) :: (a34, pm_ia g 30 (fun _ => 0)) :: (a31, pm_ia g 30 (fun _ => 0)) :: (a28, pm_ia g 30 (fun _ => 0)) :: (a25, pm_ia g 30 (fun _ => 0)) :: (a22, pm_ia g 30 (fun _ => 0)) :: (a19, pm_ia g 160 (fun _ => 0)) :: (a16, pm_ia g 160 (fun _ => 0)) :: (a13, pm_ia g 160 (fun _ => 0)) :: (a10, pm_ia g 160 (fun _ => 0)) :: (a7, pm_ia g 24 (fun _ => 0)) :: (a4, pm_ia g 160 (fun _ => 0)) :: (a1, pm_ia g 160 (fun _ => 0)) :: (a, pm_ob 11 [.ref a1, .ref a4, .ref a7, .ref a10, .ref a13, .ref a16, .ref a19, .int 0, .int 0, .int 0, .int 0, .int 0, .int 0, .ref a22, .ref a25, .ref a28, .ref a31, .int 0, .ref a34, .ref a37, .ref a40, .ref a43, .ref a46, .ref a49, .int 0, .null, .null, .null]) :: ws)) a (pm_ob 11 (([.ref a1, .ref a4, .ref a7, .ref a10, .ref a13, .ref a16, .ref a19, .int 0, .int 0, .int 0, .int 0, .int 0, .int 0, .ref a22, .ref a25, .ref a28, .ref a31, .int 0, .ref a34, .ref a37, .ref a40, .ref a43, .ref a46, .ref a49, .int 0, .null, .null, .null] : List Value).set 25 (.ref a52))) = al A ((a52, pm_ia g 160 (fun _ => 0)) :: (a49, pm_ia g 24 (fun _ => 0)) :: (a46, pm_ia g 40 (fun _ => 0)) :: (a43, pm_ia g 40 (fun _ => 0)) :: (a40, pm_ia g 6400 (fun _ => 0)) :: (a37, pm_ia g 6400 (fun _ => 0)) :: (a34, pm_ia g 30 (fun _ => 0)) :: (a31, pm_ia g 30 (fun _ => 0)) :: (a28, pm_ia g 30 (fun _ => 0)) :: (a25, pm_ia g 30 (fun _ => 0)) :: (a22, pm_ia g 30 (fun _ => 0)) :: (a19, pm_ia g 160 (fun _ => 0)) :: (a16, pm_ia g 160 (fun _ => 0)) :: (a13, pm_ia g 160 (fun _ => 0)) :: (a10, pm_ia g 160 (fun _ => 0)) :: (a7, pm_ia g 24 (fun _ => 0)) :: (a4, pm_ia g 160 (fun _ => 0)) :: (a1, pm_ia g 160 (fun _ => 0)) :: (a, pm_ob 11 [.ref a1, .ref a4, .ref a7, .ref a10, .ref a13, .ref a16, .ref a19, .int 0, .int 0, .int 0, .int 0, .int 0, .int 0, .ref a22, .ref a25, .ref a28, .ref a31, .int 0, .ref a34, .ref a37, .ref a40, .ref a43, .ref a46, .ref a49, .int 0, .ref a52, .null, .null]) :: ws) from al_set (k := 18) nd53 rfl rfl]
  have nd54 : (List.map Prod.fst ((a52, pm_ia g 160 (fun _ => 0)) :: (a49, pm_ia g 24 (fun _ => 0)) :: (a46, pm_ia g 40 (fun _ => 0)) :: (a43, pm_ia g 40 (fun _ => 0)) :: (a40, pm_ia g 6400 (fun _ => 0)) :: (a37, pm_ia g 6400 (fun _ => 0)) :: (a34, pm_ia g 30 (fun _ => 0)) :: (a31, pm_ia g 30 (fun _ => 0)) :: (a28, pm_ia g 30 (fun _ => 0)) :: (a25, pm_ia g 30 (fun _ => 0)) :: (a22, pm_ia g 30 (fun _ => 0)) :: (a19, pm_ia g 160 (fun _ => 0)) :: (a16, pm_ia g 160 (fun _ => 0)) :: (a13, pm_ia g 160 (fun _ => 0)) :: (a10, pm_ia g 160 (fun _ => 0)) :: (a7, pm_ia g 24 (fun _ => 0)) :: (a4, pm_ia g 160 (fun _ => 0)) :: (a1, pm_ia g 160 (fun _ => 0)) :: (a, pm_ob 11 [.ref a1, .ref a4, .ref a7, .ref a10, .ref a13, .ref a16, .ref a19, .int 0, .int 0, .int 0, .int 0, .int 0, .int 0, .ref a22, .ref a25, .ref a28, .ref a31, .int 0, .ref a34, .ref a37, .ref a40, .ref a43, .ref a46, .ref a49, .int 0, .ref a52, .null, .null]) :: ws)).Nodup := nd53
  refine And.intro rfl (And.intro rfl (fun a55 h55 => ?_))
  have g56 := al_none h55
  have nd56 : (List.map Prod.fst ((a55, pm_ia g 1449 (fun _ => 0)) :: ((a52, pm_ia g 160 (fun _ => 0)) :: (a49, pm_ia g 24 (fun _ => 0)) :: (a46, pm_ia g 40 (fun _ => 0)) :: (a43, pm_ia g 40 (fun _ => 0)) :: (a40, pm_ia g 6400 (fun _ => 0)) :: (a37, pm_ia g 6400 (fun _ => 0)) :: (a34, pm_ia g 30 (fun _ => 0)) :: (a31, pm_ia g 30 (fun _ => 0)) :: (a28, pm_ia g 30 (fun _ => 0)) :: (a25, pm_ia g 30 (fun _ => 0)) :: (a22, pm_ia g 30 (fun _ => 0)) :: (a19, pm_ia g 160 (fun _ => 0)) :: (a16, pm_ia g 160 (fun _ => 0)) :: (a13, pm_ia g 160 (fun _ => 0)) :: (a10, pm_ia g 160 (fun _ => 0)) :: (a7, pm_ia g 24 (fun _ => 0)) :: (a4, pm_ia g 160 (fun _ => 0)) :: (a1, pm_ia g 160 (fun _ => 0)) :: (a, pm_ob 11 [.ref a1, .ref a4, .ref a7, .ref a10, .ref a13, .ref a16, .ref a19, .int 0, .int 0, .int 0, .int 0, .int 0, .int 0, .ref a22, .ref a25, .ref a28, .ref a31, .int 0, .ref a34, .ref a37, .ref a40, .ref a43, .ref a46, .ref a49, .int 0, .ref a52, .null, .null]) :: ws))).Nodup := al_nd nd54 h55
  rw [show pm_up (al A ((a52, pm_ia g 160 (fun _ => 0)) :: (a49, pm_ia g 24 (fun _ => 0)) :: (a46, pm_ia g 40 (fun _ => 0)) :: (a43, pm_ia g 40 (fun _ => 0)) :: (a40, pm_ia g 6400 (fun _ => 0)) :: (a37, pm_ia g 6400 (fun _ => 0)) :: (a34, pm_ia g 30 (fun _ => 0)) :: (a31, pm_ia g 30 (fun _ => 0)) :: (a28, pm_ia g 30 (fun _ => 0)) :: (a25, pm_ia g 30 (fun _ => 0)) :: (a22, pm_ia g 30 (fun _ => 0)) :: (a19, pm_ia g 160 (fun _ => 0)) :: (a16, pm_ia g 160 (fun _ => 0)) :: (a13, pm_ia g 160 (fun _ => 0)) :: (a10, pm_ia g 160 (fun _ => 0)) :: (a7, pm_ia g 24 (fun _ => 0)) :: (a4, pm_ia g 160 (fun _ => 0)) :: (a1, pm_ia g 160 (fun _ => 0)) :: (a, pm_ob 11 [.ref a1, .ref a4, .ref a7, .ref a10, .ref a13, .ref a16, .ref a19, .int 0, .int 0, .int 0, .int 0, .int 0, .int 0, .ref a22, .ref a25, .ref a28, .ref a31, .int 0, .ref a34, .ref a37, .ref a40, .ref a43, .ref a46, .ref a49, .int 0, .ref a52, .null, .null]) :: ws)) a55 (pm_ia g 1449 (fun _ => 0)) = al A ((a55, pm_ia g 1449 (fun _ => 0)) :: ((a52, pm_ia g 160 (fun _ => 0)) :: (a49, pm_ia g 24 (fun _ => 0)) :: (a46, pm_ia g 40 (fun _ => 0)) :: (a43, pm_ia g 40 (fun _ => 0)) :: (a40, pm_ia g 6400 (fun _ => 0)) :: (a37, pm_ia g 6400 (fun _ => 0)) :: (a34, pm_ia g 30 (fun _ => 0)) :: (a31, pm_ia g 30 (fun _ => 0)) :: (a28, pm_ia g 30 (fun _ => 0)) :: (a25, pm_ia g 30 (fun _ => 0)) :: (a22, pm_ia g 30 (fun _ => 0)) :: (a19, pm_ia g 160 (fun _ => 0)) :: (a16, pm_ia g 160 (fun _ => 0)) :: (a13, pm_ia g 160 (fun _ => 0)) :: (a10, pm_ia g 160 (fun _ => 0)) :: (a7, pm_ia g 24 (fun _ => 0)) :: (a4, pm_ia g 160 (fun _ => 0)) :: (a1, pm_ia g 160 (fun _ => 0)) :: (a, pm_ob 11 [.ref a1, .ref a4, .ref a7, .ref a10, .ref a13, .ref a16, .ref a19, .int 0, .int 0, .int 0, .int 0, .int 0, .int 0, .ref a22, .ref a25, .ref a28, .ref a31, .int 0, .ref a34, .ref a37, .ref a40, .ref a43, .ref a46, .ref a49, .int 0, .ref a52, .null, .null]) :: ws)) from rfl]
  refine Exists.intro _ (And.intro (al_get (k := 19) nd56 rfl) (And.intro rfl ?_))
  rw [show pm_up (al A ((a55, pm_ia g 1449 (fun _ => 0)) :: (a52, pm_ia g 160 (fun _ => 0)) :: (a49, pm_ia g 24 (fun _ => 0)) :: (a46, pm_ia g 40 (fun _ => 0)) :: (a43, pm_ia g 40 (fun _ => 0)) :: (a40, pm_ia g 6400 (fun _ => 0)) :: (a37, pm_ia g 6400 (fun _ => 0)) :: (a34, pm_ia g 30 (fun _ => 0)) :: (a31, pm_ia g 30 (fun _ => 0)) :: (a28, pm_ia g 30 (fun _ => 0)) :: (a25, pm_ia g 30 (fun _ => 0)) :: (a22, pm_ia g 30 (fun _ => 0)) :: (a19, pm_ia g 160 (fun _ => 0)) :: (a16, pm_ia g 160 (fun _ => 0)) :: (a13, pm_ia g 160 (fun _ => 0)) :: (a10, pm_ia g 160 (fun _ => 0)) :: (a7, pm_ia g 24 (fun _ => 0)) :: (a4, pm_ia g 160 (fun _ => 0)) :: (a1, pm_ia g 160 (fun _ => 0)) :: (a, pm_ob 11 [.ref a1, .ref a4, .ref a7, .ref a10, .ref a13, .ref a16, .ref a19, .int 0, .int 0, .int 0, .int 0, .int 0, .int 0, .ref a22, .ref a25, .ref a28, .ref a31, .int 0, .ref a34, .ref a37, .ref a40, .ref a43, .ref a46, .ref a49, .int 0, .ref a52, .null, .null]) :: ws)) a (pm_ob 11 (([.ref a1, .ref a4, .ref a7, .ref a10, .ref a13, .ref a16, .ref a19, .int 0, .int 0, .int 0, .int 0, .int 0, .int 0, .ref a22, .ref a25, .ref a28, .ref a31, .int 0, .ref a34, .ref a37, .ref a40, .ref a43, .ref a46, .ref a49, .int 0, .ref a52, .null, .null] : List Value).set 26 (.ref a55))) = al A ((a55, pm_ia g 1449 (fun _ => 0)) :: (a52, pm_ia g 160 (fun _ => 0)) :: (a49, pm_ia g 24 (fun _ => 0)) :: (a46, pm_ia g 40 (fun _ => 0)) :: (a43, pm_ia g 40 (fun _ => 0)) :: (a40, pm_ia g 6400 (fun _ => 0)) :: (a37, pm_ia g 6400 (fun _ => 0)) :: (a34, pm_ia g 30 (fun _ => 0)) :: (a31, pm_ia g 30 (fun _ => 0)) :: (a28, pm_ia g 30 (fun _ => 0)) :: (a25, pm_ia g 30 (fun _ => 0)) :: (a22, pm_ia g 30 (fun _ => 0)) :: (a19, pm_ia g 160 (fun _ => 0)) :: (a16, pm_ia g 160 (fun _ => 0)) :: (a13, pm_ia g 160 (fun _ => 0)) :: (a10, pm_ia g 160 (fun _ => 0)) :: (a7, pm_ia g 24 (fun _ => 0)) :: (a4, pm_ia g 160 (fun _ => 0)) :: (a1, pm_ia g 160 (fun _ => 0)) :: (a, pm_ob 11 [.ref a1, .ref a4, .ref a7, .ref a10, .ref a13, .ref a16, .ref a19, .int 0, .int 0, .int 0, .int 0, .int 0, .int 0, .ref a22, .ref a25, .ref a28, .ref a31, .int 0, .ref a34, .ref a37, .ref a40, .ref a43, .ref a46, .ref a49, .int 0, .ref a52, .ref a55, .null]) :: ws) from al_set (k := 19) nd56 rfl rfl]
  have nd57 : (List.map Prod.fst ((a55, pm_ia g 1449 (fun _ => 0)) :: (a52, pm_ia g 160 (fun _ => 0)) :: (a49, pm_ia g 24 (fun _ => 0)) :: (a46, pm_ia g 40 (fun _ => 0)) :: (a43, pm_ia g 40 (fun _ => 0)) :: (a40, pm_ia g 6400 (fun _ => 0)) :: (a37, pm_ia g 6400 (fun _ => 0)) :: (a34, pm_ia g 30 (fun _ => 0)) :: (a31, pm_ia g 30 (fun _ => 0)) :: (a28, pm_ia g 30 (fun _ => 0)) :: (a25, pm_ia g 30 (fun _ => 0)) :: (a22, pm_ia g 30 (fun _ => 0)) :: (a19, pm_ia g 160 (fun _ => 0)) :: (a16, pm_ia g 160 (fun _ => 0)) :: (a13, pm_ia g 160 (fun _ => 0)) :: (a10, pm_ia g 160 (fun _ => 0)) :: (a7, pm_ia g 24 (fun _ => 0)) :: (a4, pm_ia g 160 (fun _ => 0)) :: (a1, pm_ia g 160 (fun _ => 0)) :: (a, pm_ob 11 [.ref a1, .ref a4, .ref a7, .ref a10, .ref a13, .ref a16, .ref a19, .int 0, .int 0, .int 0, .int 0, .int 0, .int 0, .ref a22, .ref a25, .ref a28, .ref a31, .int 0, .ref a34, .ref a37, .ref a40, .ref a43, .ref a46, .ref a49, .int 0, .ref a52, .ref a55, .null]) :: ws)).Nodup := nd56
  refine And.intro rfl (And.intro rfl (fun a58 h58 => ?_))
  have g59 := al_none h58
  have nd59 : (List.map Prod.fst ((a58, pm_ia g 1449 (fun _ => 0)) :: ((a55, pm_ia g 1449 (fun _ => 0)) :: (a52, pm_ia g 160 (fun _ => 0)) :: (a49, pm_ia g 24 (fun _ => 0)) :: (a46, pm_ia g 40 (fun _ => 0)) :: (a43, pm_ia g 40 (fun _ => 0)) :: (a40, pm_ia g 6400 (fun _ => 0)) :: (a37, pm_ia g 6400 (fun _ => 0)) :: (a34, pm_ia g 30 (fun _ => 0)) :: (a31, pm_ia g 30 (fun _ => 0)) :: (a28, pm_ia g 30 (fun _ => 0)) :: (a25, pm_ia g 30 (fun _ => 0)) :: (a22, pm_ia g 30 (fun _ => 0)) :: (a19, pm_ia g 160 (fun _ => 0)) :: (a16, pm_ia g 160 (fun _ => 0)) :: (a13, pm_ia g 160 (fun _ => 0)) :: (a10, pm_ia g 160 (fun _ => 0)) :: (a7, pm_ia g 24 (fun _ => 0)) :: (a4, pm_ia g 160 (fun _ => 0)) :: (a1, pm_ia g 160 (fun _ => 0)) :: (a, pm_ob 11 [.ref a1, .ref a4, .ref a7, .ref a10, .ref a13, .ref a16, .ref a19, .int 0, .int 0, .int 0, .int 0, .int 0, .int 0, .ref a22, .ref a25, .ref a28, .ref a31, .int 0, .ref a34, .ref a37, .ref a40, .ref a43, .ref a46, .ref a49, .int 0, .ref a52, .ref a55, .null]) :: ws))).Nodup := al_nd nd57 h58
  rw [show pm_up (al A ((a55, pm_ia g 1449 (fun _ => 0)) :: (a52, pm_ia g 160 (fun _ => 0)) :: (a49, pm_ia g 24 (fun _ => 0)) :: (a46, pm_ia g 40 (fun _ => 0)) :: (a43, pm_ia g 40 (fun _ => 0)) :: (a40, pm_ia g 6400 (fun _ => 0)) :: (a37, pm_ia g 6400 (fun _ => 0)) :: (a34, pm_ia g 30 (fun _ => 0)) :: (a31, pm_ia g 30 (fun _ => 0)) :: (a28, pm_ia g 30 (fun _ => 0)) :: (a25, pm_ia g 30 (fun _ => 0)) :: (a22, pm_ia g 30 (fun _ => 0)) :: (a19, pm_ia g 160 (fun _ => 0)) :: (a16, pm_ia g 160 (fun _ => 0)) :: (a13, pm_ia g 160 (fun _ => 0)) :: (a10, pm_ia g 160 (fun _ => 0)) :: (a7, pm_ia g 24 (fun _ => 0)) :: (a4, pm_ia g 160 (fun _ => 0)) :: (a1, pm_ia g 160 (fun _ => 0)) :: (a, pm_ob 11 [.ref a1, .ref a4, .ref a7, .ref a10, .ref a13, .ref a16, .ref a19, .int 0, .int 0, .int 0, .int 0, .int 0, .int 0, .ref a22, .ref a25, .ref a28, .ref a31, .int 0, .ref a34, .ref a37, .ref a40, .ref a43, .ref a46, .ref a49, .int 0, .ref a52, .ref a55, .null]) :: ws)) a58 (pm_ia g 1449 (fun _ => 0)) = al A ((a58, pm_ia g 1449 (fun _ => 0)) :: ((a55, pm_ia g 1449 (fun _ => 0)) :: (a52, pm_ia g 160 (fun _ => 0)) :: (a49, pm_ia g 24 (fun _ => 0)) :: (a46, pm_ia g 40 (fun _ => 0)) :: (a43, pm_ia g 40 (fun _ => 0)) :: (a40, pm_ia g 6400 (fun _ => 0)) :: (a37, pm_ia g 6400 (fun _ => 0)) :: (a34, pm_ia g 30 (fun _ => 0)) :: (a31, pm_ia g 30 (fun _ => 0)) :: (a28, pm_ia g 30 (fun _ => 0)) :: (a25, pm_ia g 30 (fun _ => 0)) :: (a22, pm_ia g 30 (fun _ => 0)) :: (a19, pm_ia g 160 (fun _ => 0)) :: (a16, pm_ia g 160 (fun _ => 0)) :: (a13, pm_ia g 160 (fun _ => 0)) :: (a10, pm_ia g 160 (fun _ => 0)) :: (a7, pm_ia g 24 (fun _ => 0)) :: (a4, pm_ia g 160 (fun _ => 0)) :: (a1, pm_ia g 160 (fun _ => 0)) :: (a, pm_ob 11 [.ref a1, .ref a4, .ref a7, .ref a10, .ref a13, .ref a16, .ref a19, .int 0, .int 0, .int 0, .int 0, .int 0, .int 0, .ref a22, .ref a25, .ref a28, .ref a31, .int 0, .ref a34, .ref a37, .ref a40, .ref a43, .ref a46, .ref a49, .int 0, .ref a52, .ref a55, .null]) :: ws)) from rfl]
  refine Exists.intro _ (And.intro (al_get (k := 20) nd59 rfl) (And.intro rfl ?_))
  rw [show pm_up (al A ((a58, pm_ia g 1449 (fun _ => 0)) :: (a55, pm_ia g 1449 (fun _ => 0)) :: (a52, pm_ia g 160 (fun _ => 0)) :: (a49, pm_ia g 24 (fun _ => 0)) :: (a46, pm_ia g 40 (fun _ => 0)) :: (a43, pm_ia g 40 (fun _ => 0)) :: (a40, pm_ia g 6400 (fun _ => 0)) :: (a37, pm_ia g 6400 (fun _ => 0)) :: (a34, pm_ia g 30 (fun _ => 0)) :: (a31, pm_ia g 30 (fun _ => 0)) :: (a28, pm_ia g 30 (fun _ => 0)) :: (a25, pm_ia g 30 (fun _ => 0)) :: (a22, pm_ia g 30 (fun _ => 0)) :: (a19, pm_ia g 160 (fun _ => 0)) :: (a16, pm_ia g 160 (fun _ => 0)) :: (a13, pm_ia g 160 (fun _ => 0)) :: (a10, pm_ia g 160 (fun _ => 0)) :: (a7, pm_ia g 24 (fun _ => 0)) :: (a4, pm_ia g 160 (fun _ => 0)) :: (a1, pm_ia g 160 (fun _ => 0)) :: (a, pm_ob 11 [.ref a1, .ref a4, .ref a7, .ref a10, .ref a13, .ref a16, .ref a19, .int 0, .int 0, .int 0, .int 0, .int 0, .int 0, .ref a22, .ref a25, .ref a28, .ref a31, .int 0, .ref a34, .ref a37, .ref a40, .ref a43, .ref a46, .ref a49, .int 0, .ref a52, .ref a55, .null]) :: ws)) a (pm_ob 11 (([.ref a1, .ref a4, .ref a7, .ref a10, .ref a13, .ref a16, .ref a19, .int 0, .int 0, .int 0, .int 0, .int 0, .int 0, .ref a22, .ref a25, .ref a28, .ref a31, .int 0, .ref a34, .ref a37, .ref a40, .ref a43, .ref a46, .ref a49, .int 0, .ref a52, .ref a55, .null] : List Value).set 27 (.ref a58))) = al A ((a58, pm_ia g 1449 (fun _ => 0)) :: (a55, pm_ia g 1449 (fun _ => 0)) :: (a52, pm_ia g 160 (fun _ => 0)) :: (a49, pm_ia g 24 (fun _ => 0)) :: (a46, pm_ia g 40 (fun _ => 0)) :: (a43, pm_ia g 40 (fun _ => 0)) :: (a40, pm_ia g 6400 (fun _ => 0)) :: (a37, pm_ia g 6400 (fun _ => 0)) :: (a34, pm_ia g 30 (fun _ => 0)) :: (a31, pm_ia g 30 (fun _ => 0)) :: (a28, pm_ia g 30 (fun _ => 0)) :: (a25, pm_ia g 30 (fun _ => 0)) :: (a22, pm_ia g 30 (fun _ => 0)) :: (a19, pm_ia g 160 (fun _ => 0)) :: (a16, pm_ia g 160 (fun _ => 0)) :: (a13, pm_ia g 160 (fun _ => 0)) :: (a10, pm_ia g 160 (fun _ => 0)) :: (a7, pm_ia g 24 (fun _ => 0)) :: (a4, pm_ia g 160 (fun _ => 0)) :: (a1, pm_ia g 160 (fun _ => 0)) :: (a, pm_ob 11 [.ref a1, .ref a4, .ref a7, .ref a10, .ref a13, .ref a16, .ref a19, .int 0, .int 0, .int 0, .int 0, .int 0, .int 0, .ref a22, .ref a25, .ref a28, .ref a31, .int 0, .ref a34, .ref a37, .ref a40, .ref a43, .ref a46, .ref a49, .int 0, .ref a52, .ref a55, .ref a58]) :: ws) from al_set (k := 20) nd59 rfl rfl]
  have nd60 : (List.map Prod.fst ((a58, pm_ia g 1449 (fun _ => 0)) :: (a55, pm_ia g 1449 (fun _ => 0)) :: (a52, pm_ia g 160 (fun _ => 0)) :: (a49, pm_ia g 24 (fun _ => 0)) :: (a46, pm_ia g 40 (fun _ => 0)) :: (a43, pm_ia g 40 (fun _ => 0)) :: (a40, pm_ia g 6400 (fun _ => 0)) :: (a37, pm_ia g 6400 (fun _ => 0)) :: (a34, pm_ia g 30 (fun _ => 0)) :: (a31, pm_ia g 30 (fun _ => 0)) :: (a28, pm_ia g 30 (fun _ => 0)) :: (a25, pm_ia g 30 (fun _ => 0)) :: (a22, pm_ia g 30 (fun _ => 0)) :: (a19, pm_ia g 160 (fun _ => 0)) :: (a16, pm_ia g 160 (fun _ => 0)) :: (a13, pm_ia g 160 (fun _ => 0)) :: (a10, pm_ia g 160 (fun _ => 0)) :: (a7, pm_ia g 24 (fun _ => 0)) :: (a4, pm_ia g 160 (fun _ => 0)) :: (a1, pm_ia g 160 (fun _ => 0)) :: (a, pm_ob 11 [.ref a1, .ref a4, .ref a7, .ref a10, .ref a13, .ref a16, .ref a19, .int 0, .int 0, .int 0, .int 0, .int 0, .int 0, .ref a22, .ref a25, .ref a28, .ref a31, .int 0, .ref a34, .ref a37, .ref a40, .ref a43, .ref a46, .ref a49, .int 0, .ref a52, .ref a55, .ref a58]) :: ws)).Nodup := nd59
  have k24 : (24 : Int32).toInt = 24 := rfl
  have k0 : (0 : Int32).toInt = 0 := rfl
  have lp : ∀ (n : Nat) (z : Int32) (fw : Nat → Int32), (0 ≤ z.toInt ∧ z.toInt ≤ 24) → (∀ j : Nat, (j : Int) < z.toInt → fw j = 1) → 24 - z.toInt < (n : Int) → J 177 [some (.ref a), some (.int z)] [] (al A ((a58, pm_ia g 1449 (fun _ => 0)) :: (a55, pm_ia g 1449 (fun _ => 0)) :: (a52, pm_ia g 160 (fun _ => 0)) :: (a49, pm_ia g 24 (fun _ => 0)) :: (a46, pm_ia g 40 (fun _ => 0)) :: (a43, pm_ia g 40 (fun _ => 0)) :: (a40, pm_ia g 6400 (fun _ => 0)) :: (a37, pm_ia g 6400 (fun _ => 0)) :: (a34, pm_ia g 30 (fun _ => 0)) :: (a31, pm_ia g 30 (fun _ => 0)) :: (a28, pm_ia g 30 (fun _ => 0)) :: (a25, pm_ia g 30 (fun _ => 0)) :: (a22, pm_ia g 30 (fun _ => 0)) :: (a19, pm_ia g 160 (fun _ => 0)) :: (a16, pm_ia g 160 (fun _ => 0)) :: (a13, pm_ia g 160 (fun _ => 0)) :: (a10, pm_ia g 160 (fun _ => 0)) :: (a7, pm_ia g 24 fw) :: (a4, pm_ia g 160 (fun _ => 0)) :: (a1, pm_ia g 160 (fun _ => 0)) :: (a, pm_ob 11 [.ref a1, .ref a4, .ref a7, .ref a10, .ref a13, .ref a16, .ref a19, .int 0, .int 0, .int 0, .int 0, .int 0, .int 0, .ref a22, .ref a25, .ref a28, .ref a31, .int 0, .ref a34, .ref a37, .ref a40, .ref a43, .ref a46, .ref a49, .int 0, .ref a52, .ref a55, .ref a58]) :: ws)) 20 17096 := by
    intro n
    induction n with
    | zero => intro z fw h1 h2 h3; omega
    | succ n ih =>
      intro z fw h1 h2 h3
      have ndf : (List.map Prod.fst ((a58, pm_ia g 1449 (fun _ => 0)) :: (a55, pm_ia g 1449 (fun _ => 0)) :: (a52, pm_ia g 160 (fun _ => 0)) :: (a49, pm_ia g 24 (fun _ => 0)) :: (a46, pm_ia g 40 (fun _ => 0)) :: (a43, pm_ia g 40 (fun _ => 0)) :: (a40, pm_ia g 6400 (fun _ => 0)) :: (a37, pm_ia g 6400 (fun _ => 0)) :: (a34, pm_ia g 30 (fun _ => 0)) :: (a31, pm_ia g 30 (fun _ => 0)) :: (a28, pm_ia g 30 (fun _ => 0)) :: (a25, pm_ia g 30 (fun _ => 0)) :: (a22, pm_ia g 30 (fun _ => 0)) :: (a19, pm_ia g 160 (fun _ => 0)) :: (a16, pm_ia g 160 (fun _ => 0)) :: (a13, pm_ia g 160 (fun _ => 0)) :: (a10, pm_ia g 160 (fun _ => 0)) :: (a7, pm_ia g 24 fw) :: (a4, pm_ia g 160 (fun _ => 0)) :: (a1, pm_ia g 160 (fun _ => 0)) :: (a, pm_ob 11 [.ref a1, .ref a4, .ref a7, .ref a10, .ref a13, .ref a16, .ref a19, .int 0, .int 0, .int 0, .int 0, .int 0, .int 0, .ref a22, .ref a25, .ref a28, .ref a31, .int 0, .ref a34, .ref a37, .ref a40, .ref a43, .ref a46, .ref a49, .int 0, .ref a52, .ref a55, .ref a58]) :: ws)).Nodup := nd60
      refine hC.1 1 177 _ _ rfl _ _ _ _ _ ?_
      refine And.intro (fun c9 => ?_) (fun c9 => ?_)
      · refine hC.1 2 196 _ _ rfl _ _ _ _ _ ?_
        exact ⟨rfl, rfl, rfl, a1, a4, a7, a10, a13, a16, a19, a22, a25, a28, a31, a34, a37, a40, a43, a46, a49, a52, a55, a58, fw, rfl, ndf, fun j hj => h2 j (by omega), g2.2, g5.2, g8.2, g11.2, g14.2, g17.2, g20.2, g23.2, g26.2, g29.2, g32.2, g35.2, g38.2, g41.2, g44.2, g47.2, g50.2, g53.2, g56.2, g59.2⟩
      · refine Exists.intro _ (And.intro (al_get (k := 20) ndf rfl) ?_)
        refine Exists.intro _ (Exists.intro _ (And.intro (al_get (k := 17) ndf rfl) (And.intro (by omega) ?_)))
        rw [show pm_up (al A ((a58, pm_ia g 1449 (fun _ => 0)) :: (a55, pm_ia g 1449 (fun _ => 0)) :: (a52, pm_ia g 160 (fun _ => 0)) :: (a49, pm_ia g 24 (fun _ => 0)) :: (a46, pm_ia g 40 (fun _ => 0)) :: (a43, pm_ia g 40 (fun _ => 0)) :: (a40, pm_ia g 6400 (fun _ => 0)) :: (a37, pm_ia g 6400 (fun _ => 0)) :: (a34, pm_ia g 30 (fun _ => 0)) :: (a31, pm_ia g 30 (fun _ => 0)) :: (a28, pm_ia g 30 (fun _ => 0)) :: (a25, pm_ia g 30 (fun _ => 0)) :: (a22, pm_ia g 30 (fun _ => 0)) :: (a19, pm_ia g 160 (fun _ => 0)) :: (a16, pm_ia g 160 (fun _ => 0)) :: (a13, pm_ia g 160 (fun _ => 0)) :: (a10, pm_ia g 160 (fun _ => 0)) :: (a7, pm_ia g 24 fw) :: (a4, pm_ia g 160 (fun _ => 0)) :: (a1, pm_ia g 160 (fun _ => 0)) :: (a, pm_ob 11 [.ref a1, .ref a4, .ref a7, .ref a10, .ref a13, .ref a16, .ref a19, .int 0, .int 0, .int 0, .int 0, .int 0, .int 0, .ref a22, .ref a25, .ref a28, .ref a31, .int 0, .ref a34, .ref a37, .ref a40, .ref a43, .ref a46, .ref a49, .int 0, .ref a52, .ref a55, .ref a58]) :: ws)) a7 (pm_ia g 24 (upd fw z.toInt.toNat 1)) = al A ((a58, pm_ia g 1449 (fun _ => 0)) :: (a55, pm_ia g 1449 (fun _ => 0)) :: (a52, pm_ia g 160 (fun _ => 0)) :: (a49, pm_ia g 24 (fun _ => 0)) :: (a46, pm_ia g 40 (fun _ => 0)) :: (a43, pm_ia g 40 (fun _ => 0)) :: (a40, pm_ia g 6400 (fun _ => 0)) :: (a37, pm_ia g 6400 (fun _ => 0)) :: (a34, pm_ia g 30 (fun _ => 0)) :: (a31, pm_ia g 30 (fun _ => 0)) :: (a28, pm_ia g 30 (fun _ => 0)) :: (a25, pm_ia g 30 (fun _ => 0)) :: (a22, pm_ia g 30 (fun _ => 0)) :: (a19, pm_ia g 160 (fun _ => 0)) :: (a16, pm_ia g 160 (fun _ => 0)) :: (a13, pm_ia g 160 (fun _ => 0)) :: (a10, pm_ia g 160 (fun _ => 0)) :: (a7, pm_ia g 24 (upd fw z.toInt.toNat 1)) :: (a4, pm_ia g 160 (fun _ => 0)) :: (a1, pm_ia g 160 (fun _ => 0)) :: (a, pm_ob 11 [.ref a1, .ref a4, .ref a7, .ref a10, .ref a13, .ref a16, .ref a19, .int 0, .int 0, .int 0, .int 0, .int 0, .int 0, .ref a22, .ref a25, .ref a28, .ref a31, .int 0, .ref a34, .ref a37, .ref a40, .ref a43, .ref a46, .ref a49, .int 0, .ref a52, .ref a55, .ref a58]) :: ws) from al_set (k := 17) ndf rfl rfl]
        intro m em
        have e1 : m.toInt = z.toInt + 1 := by rw [em]; exact pm_addc _ _ 1 rfl (by omega) (by omega)
        refine ih m _ (by omega) (fun j hj => ?_) (by omega)
        by_cases hjz : j = z.toInt.toNat
        · subst hjz; exact pk_us
        · rw [pk_un hjz]; exact h2 j (by omega)
  exact lp 25 0 (fun _ => 0) (by omega) (fun j hj => by omega) (by omega)
end
end
section
/-! the law's world: the class's cells over the reference's -/
theorem md_out {A0 : pm_H} {g : pm_G} {h : Nat} {q : Nat → Nat} {v : Nat → Int32} {f : Nat → Nat → Int32} {x : Nat} (hx : x ≠ h) (hq : ∀ i, i < 20 → x ≠ q i) : md A0 g h q v f x = A0 x := by
  unfold md
  rw [if_neg hx]
  cases hf : (List.range 20).find? (fun j => decide (x = q j)) with
  | none => rfl
  | some j =>
    have h3 : x = q j := by simpa using List.find?_some hf
    have h4 := List.mem_range.mp (List.mem_of_find?_eq_some hf)
    exact absurd h3 (hq j h4)
theorem cw_md {A00 : pm_H} {g : pm_G} {h : Nat} {mq : Nat → Nat} {mv : Nat → Int32} {mf : Nat → Nat → Int32} {K nn dn : Nat} {q : Nat → Nat} {w : Nat → Int32} {e : Nat → Nat → Int32} {v : Nat → Int32} {f : Nat → Nat → Int32} (D : md_D h mq) (dj : ∀ i, i < 40 + 4 * K → q i ≠ h ∧ ∀ j, j < 20 → q i ≠ mq j) : cw (md A00 g h mq mv mf) g K nn dn q w e v f = md (cw A00 g K nn dn q w e v f) g h mq mv mf := by
  refine md_char ?_ (fun i hi => ?_) (fun x hx hq => ?_)
  · exact (gw_out (fun i hi => (dj i hi).1.symm)).trans md_o
  · exact (gw_out (fun j hj => ((dj j hj).2 i hi).symm)).trans (md_a D hi)
  · unfold cw gw
    cases hf : (List.range (40 + 4 * K)).find? (fun j => decide (x = q j)) with
    | none => exact md_out hx hq
    | some j => rfl
theorem lw_dj {A00 : pm_H} {g : pm_G} {h : Nat} {mq : Nat → Nat} {mv : Nat → Int32} {mf : Nat → Nat → Int32} {K K2 : Nat} {q q2 : Nat → Nat} (D : md_D h mq) (dj : ∀ i, i < 40 + 4 * K → q i ≠ h ∧ ∀ j, j < 20 → q i ≠ mq j) (hX : cw_X (md A00 g h mq mv mf) K q K2 q2) : ∀ i, i < 40 + 4 * K2 → q2 i ≠ h ∧ ∀ j, j < 20 → q2 i ≠ mq j := by
  intro i hi
  by_cases hk : i < 40 + 4 * K
  · rw [hX.2.1 i hk]
    exact dj i hk
  · have h1 := hX.2.2 i (by omega) hi
    refine ⟨fun e1 => ?_, fun j hj e1 => ?_⟩
    · rw [e1, md_o] at h1; cases h1
    · rw [e1, md_a D hj] at h1; cases h1
noncomputable def lw_ro (b L : Nat) (xs : Nat → Int32) : Nat → Option (Nat × (Nat → Int32)) := fun a => if a = b then some (L, xs) else none
noncomputable def lw_Rt : Option Value → pm_H → Nat → Nat → Prop := fun v _ c s => c ≤ 600000 ∧ s ≤ 7302250 ∧ v = some (.int 1)
theorem lw_bnd {d' d c mc' mc s ms' ms : Nat} {rest : List Value} (h1 : Nat.blt d' d = true) (h2 : c + mc' ≤ mc) (h3 : s + ms' ≤ ms) (h4 : pm_rm rest = true) : (Nat.blt d' d && (Nat.ble (c + mc') mc && (Nat.ble (s + ms') ms && pm_rm rest))) = true := by
  rw [h1, h4, Nat.ble_eq_true_of_le h2, Nat.ble_eq_true_of_le h3]
  rfl
end
section
/-! the law's arguments and room, without a search -/
theorem lx_ad {i m y : Int32} {k : Int} {L : Nat} (hi : 0 ≤ i.toInt ∧ i.toInt + 6 ≤ (L : Int)) (hL : L ≤ 3072) (hk : y.toInt = k) (h0 : 0 ≤ k) (h5 : k ≤ 5) (em : m = i + y) : m.toInt = i.toInt + k := by rw [em]; exact pm_addc _ _ k hk (by omega) (by omega)
theorem lx_ad1 {i m : Int32} {L : Nat} (hi : 0 ≤ i.toInt ∧ i.toInt + 6 ≤ (L : Int)) (hL : L ≤ 3072) (em : m = i + 1) : m.toInt = i.toInt + 1 := lx_ad hi hL rfl (by decide) (by decide) em
theorem lx_ad2 {i m : Int32} {L : Nat} (hi : 0 ≤ i.toInt ∧ i.toInt + 6 ≤ (L : Int)) (hL : L ≤ 3072) (em : m = i + 2) : m.toInt = i.toInt + 2 := lx_ad hi hL rfl (by decide) (by decide) em
theorem lx_ad3 {i m : Int32} {L : Nat} (hi : 0 ≤ i.toInt ∧ i.toInt + 6 ≤ (L : Int)) (hL : L ≤ 3072) (em : m = i + 3) : m.toInt = i.toInt + 3 := lx_ad hi hL rfl (by decide) (by decide) em
theorem lx_ad4 {i m : Int32} {L : Nat} (hi : 0 ≤ i.toInt ∧ i.toInt + 6 ≤ (L : Int)) (hL : L ≤ 3072) (em : m = i + 4) : m.toInt = i.toInt + 4 := lx_ad hi hL rfl (by decide) (by decide) em
theorem lx_ad5 {i m : Int32} {L : Nat} (hi : 0 ≤ i.toInt ∧ i.toInt + 6 ≤ (L : Int)) (hL : L ≤ 3072) (em : m = i + 5) : m.toInt = i.toInt + 5 := lx_ad hi hL rfl (by decide) (by decide) em
theorem lx_bn1 {i m : Int32} {L : Nat} (hi : 0 ≤ i.toInt ∧ i.toInt + 6 ≤ (L : Int)) (e : m.toInt = i.toInt + 1) : 0 ≤ m.toInt ∧ m.toInt < (L : Int) := by omega
theorem lx_bn2 {i m : Int32} {L : Nat} (hi : 0 ≤ i.toInt ∧ i.toInt + 6 ≤ (L : Int)) (e : m.toInt = i.toInt + 2) : 0 ≤ m.toInt ∧ m.toInt < (L : Int) := by omega
theorem lx_bn3 {i m : Int32} {L : Nat} (hi : 0 ≤ i.toInt ∧ i.toInt + 6 ≤ (L : Int)) (e : m.toInt = i.toInt + 3) : 0 ≤ m.toInt ∧ m.toInt < (L : Int) := by omega
theorem lx_bn4 {i m : Int32} {L : Nat} (hi : 0 ≤ i.toInt ∧ i.toInt + 6 ≤ (L : Int)) (e : m.toInt = i.toInt + 4) : 0 ≤ m.toInt ∧ m.toInt < (L : Int) := by omega
theorem lx_bn5 {i m : Int32} {L : Nat} (hi : 0 ≤ i.toInt ∧ i.toInt + 6 ≤ (L : Int)) (e : m.toInt = i.toInt + 5) : 0 ≤ m.toInt ∧ m.toInt < (L : Int) := by omega
theorem lx_c1 {c k m N : Nat} (hc : c + k ≤ N) (h : m ≤ k) : c + m ≤ N := by omega
theorem lx_c2 {c k m n N : Nat} (hc : c + k ≤ N) (h : m + n ≤ k) : c + m + n ≤ N := by omega
end
section
/-! a row as a list of (colour, name) -/
noncomputable abbrev pl_P : Type := Int32 × Int32
noncomputable def rp (n : Int32) (c m : Nat → Int32) (L : List pl_P) : Prop := n.toInt = (L.length : Int) ∧ ∀ (j : Nat) (h : j < L.length), c j = (L[j]).1 ∧ m j = (L[j]).2
theorem rp_0 {c m : Nat → Int32} {n : Int32} (h : n.toInt = 0) : rp n c m [] := ⟨by rw [h]; rfl, fun j h => absurd h (Nat.not_lt_zero _)⟩
theorem rp_app {n n2 : Int32} {c m : Nat → Int32} {L : List pl_P} (h : rp n c m L) (h2 : n2.toInt = n.toInt + 1) (a b : Int32) : rp n2 (upd c n.toInt.toNat a) (upd m n.toInt.toNat b) (L ++ [(a, b)]) := by
  obtain ⟨h0, h1⟩ := h
  have hn : n.toInt.toNat = L.length := by omega
  refine ⟨by rw [h2, h0, List.length_append]; rfl, fun j hj => ?_⟩
  rw [hn]
  by_cases e : j = L.length
  · subst e
    rw [pk_us, pk_us, List.getElem_append_right (Nat.le_refl _)]
    simp
  · have hl : j < L.length := by
      rw [List.length_append] at hj
      have : ([(a, b)] : List pl_P).length = 1 := rfl
      omega
    rw [pk_un e, pk_un e, List.getElem_append_left hl]
    exact h1 j hl
noncomputable def sl (L : List pl_P) (a b : Nat) : List pl_P := (L.drop a).take (b - a)
theorem sl_n (L : List pl_P) {a b : Nat} (h : b ≤ a) : sl L a b = [] := by
  unfold sl
  rw [show b - a = 0 by omega, List.take_zero]
theorem sl_s {L : List pl_P} {a b : Nat} (h : a ≤ b) (hb : b < L.length) : sl L a (b + 1) = sl L a b ++ [L[b]] := by
  unfold sl
  rw [show b + 1 - a = (b - a) + 1 by omega, List.take_succ_eq_append_getElem (by rw [List.length_drop]; omega)]
  congr 2
  rw [List.getElem_drop]
  congr 1
  omega
theorem sl_len {L : List pl_P} {a b : Nat} (h : b ≤ L.length) : (sl L a b).length = b - a := by
  unfold sl
  rw [List.length_take, List.length_drop]
  omega
theorem rp_at {n : Int32} {c m : Nat → Int32} {L : List pl_P} (h : rp n c m L) {j : Nat} (hj : j < L.length) : L[j] = (c j, m j) := Prod.ext (h.2 j hj).1.symm (h.2 j hj).2.symm
theorem rp_n {n n2 : Int32} {c m : Nat → Int32} {L : List pl_P} (h : rp n c m L) (h2 : n2.toInt = n.toInt) : rp n2 c m L := ⟨h2.trans h.1, h.2⟩
theorem rp_cp {n n2 : Int32} {c m c2 m2 : Nat → Int32} {L : List pl_P} (h : rp n c m L) (h2 : n2.toInt = n.toInt) (he : ∀ j : Nat, (j : Int) < n.toInt → c2 j = c j ∧ m2 j = m j) : rp n2 c2 m2 L := ⟨h2.trans h.1, fun j hj => by
  have e := he j (by have := h.1; omega)
  rw [e.1, e.2]
  exact h.2 j hj⟩
theorem rp_fr {n n2 : Int32} {c m c2 m2 : Nat → Int32} {L : List pl_P} (h : rp n c m L) (h2 : n2.toInt = n.toInt) (hc : c2 = c) (hm : m2 = m) : rp n2 c2 m2 L := by
  subst hc; subst hm
  exact rp_n h h2
noncomputable def si (L : List pl_P) (a b : Int) : List pl_P := sl L a.toNat b.toNat
theorem si_len {L : List pl_P} {a b : Int} (h0 : 0 ≤ a) (h1 : a ≤ b) (h : b ≤ (L.length : Int)) : ((si L a b).length : Int) = b - a := by
  unfold si
  rw [sl_len (by omega)]
  omega
theorem si_n {L : List pl_P} {a b : Int} (h : b ≤ a) : si L a b = [] := sl_n L (by omega)
theorem si_s {n : Int32} {c m : Nat → Int32} {L : List pl_P} (h : rp n c m L) {a z : Int} (h0 : 0 ≤ a) (ha : a ≤ z) (hz : z < (L.length : Int)) : si L a (z + 1) = si L a z ++ [(c z.toNat, m z.toNat)] := by
  unfold si
  rw [show (z + 1).toNat = z.toNat + 1 by omega, sl_s (by omega) (by omega), rp_at h (by omega)]
noncomputable def edn : Option (List pl_P) → Int
  | some _ => 1
  | none => 0
theorem pm_remc (x y : Int32) (k : Int) (hk : y.toInt = k) (hx : 0 ≤ x.toInt) (hy : 0 < k) : 0 ≤ (x - x / y * y).toInt ∧ (x - x / y * y).toInt < k ∧ (x - x / y * y).toInt = x.toInt % k := by
  subst hk
  exact pm_rem x y hx hy
theorem si_all (L : List pl_P) : si L 0 L.length = L := by
  unfold si sl
  simp
end
section
section
variable {l : Launch} {g : pm_G} {A0 : pm_H} {h : Nat} {q : Nat → Nat}
set_option maxRecDepth 100000 in
set_option maxHeartbeats 2000000 in
theorem F_X11_begins (D : md_D h q) (v : Nat → Int32) (f : Nat → Nat → Int32) (hv : md_V v) (hf : md_F f)  : pm_Mt l g 172 2 0 0 [.ref h] (md A0 g h q v f) (md_Qv A0 g h q f (fun v2 f2 => f2 0 = f 0 ∧ f2 1 = f 1 ∧ (v2 0).toInt = (v 0).toInt ∧ (v2 3).toInt = (v 3).toInt ∧ (v2 4).toInt = (v 4).toInt ∧ (v2 6).toInt = (v 6).toInt ∧ (v2 2).toInt = 0)) := by
  refine mt_X11_begins rfl (fun J hC => ?_)
  have hv9 := hv
  unfold md_V at hv9
  refine hC.1 0 0 _ _ rfl _ _ _ _ _ ?_
  refine Exists.intro _ (And.intro md_o ?_)
  refine Exists.intro _ (And.intro md_o (And.intro rfl ?_))
  rw [md_p_oldMany D]
  obtain ⟨v1, ev1⟩ : ∃ z9, z9 = upd v 1 (v 0) := ⟨_, rfl⟩
  rw [← ev1]
  have ev1_0 : (v1 0).toInt = (v 0).toInt := by rw [ev1]; rfl
  have ev1_1 : (v1 1).toInt = ((v 0)).toInt := by rw [ev1]; rfl
  have ev1_2 : (v1 2).toInt = (v 2).toInt := by rw [ev1]; rfl
  have ev1_3 : (v1 3).toInt = (v 3).toInt := by rw [ev1]; rfl
  have ev1_4 : (v1 4).toInt = (v 4).toInt := by rw [ev1]; rfl
  have ev1_5 : (v1 5).toInt = (v 5).toInt := by rw [ev1]; rfl
  have ev1_6 : (v1 6).toInt = (v 6).toInt := by rw [ev1]; rfl
  have ev1_7 : (v1 7).toInt = (v 7).toInt := by rw [ev1]; rfl
  have pn_5 : v1 1 = (v 0) := by rw [ev1]; rfl
  have k0 : (0 : Int32).toInt = 0 := rfl
  have lp3 : ∀ (n : Nat) (z1_10 : Int32) (v2 : Nat → Int32) (f2 : Nat → Nat → Int32), md_V v2 → md_F f2 → f2 2 = f 2 → f2 0 = f 0 → f2 1 = f 1 → (0 ≤ z1_10.toInt ∧ z1_10.toInt ≤ (v 0).toInt) → (v2 0).toInt = (v 0).toInt → (v2 3).toInt = (v 3).toInt → (v2 4).toInt = (v 4).toInt → (v2 6).toInt = (v 6).toInt → 200 - z1_10.toInt < (n : Int) → J 10 [some (.ref h), some (.int z1_10)] [] (md A0 g h q v2 f2) 0 0 := by
    intro n
    induction n with
    | zero =>
      intro z1_10 v2 f2 hv2 hf2 hw2 hr2_0 hr2_1 j0_10 j1_10 j2_10 j3_10 j4_10 j5_10
      clear ev1_0 ev1_1 ev1_2 ev1_3 ev1_4 ev1_5 ev1_6 ev1_7
      omega
    | succ n ih4 =>
      intro z1_10 v2 f2 hv2 hf2 hw2 hr2_0 hr2_1 j0_10 j1_10 j2_10 j3_10 j4_10 j5_10
      clear ev1_0 ev1_1 ev1_2 ev1_3 ev1_4 ev1_5 ev1_6 ev1_7
      refine hC.1 1 10 _ _ rfl _ _ _ _ _ ?_
      have hu5_1 := hv2.2.1
      have hu5_2 := hv2.2.2.1
      refine Exists.intro _ (And.intro md_o ?_)
      refine And.intro (fun c6 => ?_) (fun c6 => ?_)
      · skip
        refine hC.1 2 47 _ _ rfl _ _ _ _ _ ?_
        refine Exists.intro _ (And.intro md_o (And.intro rfl ?_))
        rw [md_p_nextMany D]
        obtain ⟨v7, ev7⟩ : ∃ z9, z9 = upd v2 2 (0 : Int32) := ⟨_, rfl⟩
        rw [← ev7]
        have ev7_0 : (v7 0).toInt = (v2 0).toInt := by rw [ev7]; rfl
        have ev7_1 : (v7 1).toInt = (v2 1).toInt := by rw [ev7]; rfl
        have ev7_2 : (v7 2).toInt = ((0 : Int32)).toInt := by rw [ev7]; rfl
        have ev7_3 : (v7 3).toInt = (v2 3).toInt := by rw [ev7]; rfl
        have ev7_4 : (v7 4).toInt = (v2 4).toInt := by rw [ev7]; rfl
        have ev7_5 : (v7 5).toInt = (v2 5).toInt := by rw [ev7]; rfl
        have ev7_6 : (v7 6).toInt = (v2 6).toInt := by rw [ev7]; rfl
        have ev7_7 : (v7 7).toInt = (v2 7).toInt := by rw [ev7]; rfl
        have pn_49 : v7 2 = (0 : Int32) := by rw [ev7]; rfl
        have hv8 : md_V v7 := by unfold md_V; omega
        exact ⟨rfl, rfl, v7, f2, rfl, rfl, hv8, hf2, hw2, hr2_0, hr2_1, by first | omega | (dsimp only; omega) | trivial⟩
      · skip
        refine Exists.intro _ (And.intro md_o ?_)
        refine Exists.intro _ (And.intro md_o ?_)
        refine Exists.intro _ (Exists.intro _ (And.intro (Or.inl (md_a_names D)) (And.intro (by omega) ?_)))
        refine Exists.intro _ (Exists.intro _ (And.intro (md_a_oldNames D) (And.intro (by omega) ?_)))
        rw [md_s_oldNames D]
        obtain ⟨f9, ef9⟩ : ∃ z9, z9 = va_up f2 3 (upd (f2 3) (z1_10).toInt.toNat (f2 1 (z1_10).toInt.toNat)) := ⟨_, rfl⟩
        rw [← ef9]
        have hf9 : md_F f9 := by rw [ef9]; exact md_F_st hf2 3 _ _ (md_rng _ _ (by decide))
        have hw9 : f9 2 = f 2 := (show f9 2 = f2 2 by rw [ef9]; rfl).trans hw2
        have hr9_0 : f9 0 = f 0 := (show f9 0 = f2 0 by rw [ef9]; rfl).trans hr2_0
        have hr9_1 : f9 1 = f 1 := (show f9 1 = f2 1 by rw [ef9]; rfl).trans hr2_1
        refine Exists.intro _ (And.intro md_o ?_)
        refine And.intro (Exists.intro _ md_o) (Exists.intro _ (Exists.intro _ (Exists.intro _ (Exists.intro _ (And.intro (c_X11_bondOf D v2 f9 hv2 hf9 z1_10 (by omega)) (And.intro rfl (fun r9 A9 h9 => ?_)))))))
        obtain ⟨y10, rfl, rfl, by10⟩ := h9
        refine Exists.intro _ (Exists.intro _ (And.intro (md_a_oldBonds D) (And.intro (by omega) ?_)))
        rw [md_s_oldBonds D]
        obtain ⟨f11, ef11⟩ : ∃ z9, z9 = va_up f9 4 (upd (f9 4) (z1_10).toInt.toNat y10) := ⟨_, rfl⟩
        rw [← ef11]
        have hf11 : md_F f11 := by rw [ef11]; exact md_F_st hf9 4 _ _ (md_rng _ _ (by decide))
        have hw11 : f11 2 = f 2 := (show f11 2 = f9 2 by rw [ef11]; rfl).trans hw9
        have hr11_0 : f11 0 = f 0 := (show f11 0 = f9 0 by rw [ef11]; rfl).trans hr9_0
        have hr11_1 : f11 1 = f 1 := (show f11 1 = f9 1 by rw [ef11]; rfl).trans hr9_1
        have k1 : (1 : Int32).toInt = 1 := rfl
        intro m12 em_41
        try have e12 : m12.toInt = (z1_10).toInt + (1) := by rw [em_41]; exact pm_addc _ _ (1) rfl (by omega) (by omega)
        exact ih4 m12 v2 f11 hv2 hf11 hw11 hr11_0 hr11_1 (by omega) (by omega) (by omega) (by omega) (by omega) (by omega)
  have hv13 : md_V v1 := by unfold md_V; omega
  exact lp3 (200 - (0 : Int32).toInt).toNat.succ (0 : Int32) v1 f hv13 hf rfl rfl rfl (by omega) (by omega) (by omega) (by omega) (by omega) (by omega)

set_option maxRecDepth 100000 in
set_option maxHeartbeats 2000000 in
theorem F_X11_lays (D : md_D h q) (v : Nat → Int32) (f : Nat → Nat → Int32) (hv : md_V v) (hf : md_F f) (x1 : Int32) (x2 : Int32) (p0 : (v 2).toInt < 160) (p1 : 0 ≤ x1.toInt ∧ x1.toInt ≤ 23) : pm_Mt l g 175 0 0 0 [.ref h, .int x1, .int x2] (md A0 g h q v f) (md_Qv A0 g h q f (fun v2 f2 => f2 0 = f 0 ∧ f2 1 = f 1 ∧ ((v2 0).toInt = (v 0).toInt ∧ (v2 1).toInt = (v 1).toInt ∧ (v2 3).toInt = (v 3).toInt ∧ (v2 4).toInt = (v 4).toInt ∧ (v2 6).toInt = (v 6).toInt ∧ (v2 2).toInt = (v 2).toInt + 1) ∧ (∀ N, rp (v 2) (f 5) (f 6) (N) → rp (v2 2) (f2 5) (f2 6) (N ++ [(x1, x2)])))) := by
  refine mt_X11_lays rfl (fun J hC => ?_)
  have hv9 := hv
  unfold md_V at hv9
  have rg_x1 := pm_rng x1
  have rg_x2 := pm_rng x2
  refine hC.1 0 0 _ _ rfl _ _ _ _ _ ?_
  refine Exists.intro _ (And.intro md_o ?_)
  refine Exists.intro _ (And.intro md_o ?_)
  refine Exists.intro _ (Exists.intro _ (And.intro (md_a_nextColours D) (And.intro (by omega) ?_)))
  rw [md_s_nextColours D]
  obtain ⟨f1, ef1⟩ : ∃ z9, z9 = va_up f 5 (upd (f 5) ((v 2)).toInt.toNat x1) := ⟨_, rfl⟩
  rw [← ef1]
  have pf_9 : f1 5 = upd (f 5) ((v 2)).toInt.toNat x1 := by rw [ef1]; exact if_pos rfl
  have pg_9 : ∀ i9, i9 ≠ 5 → f1 i9 = f i9 := fun i9 h9 => by rw [ef1]; exact if_neg h9
  have hf1 : md_F f1 := by rw [ef1]; exact md_F_st hf 5 _ _ (by show (0 : Int) ≤ _ ∧ _ ≤ (23 : Int); omega)
  have hw1 : f1 2 = f 2 := (show f1 2 = f 2 by rw [ef1]; rfl).trans rfl
  have hr1_0 : f1 0 = f 0 := (show f1 0 = f 0 by rw [ef1]; rfl).trans rfl
  have hr1_1 : f1 1 = f 1 := (show f1 1 = f 1 by rw [ef1]; rfl).trans rfl
  refine Exists.intro _ (And.intro md_o ?_)
  refine Exists.intro _ (And.intro md_o ?_)
  refine Exists.intro _ (Exists.intro _ (And.intro (md_a_nextNames D) (And.intro (by omega) ?_)))
  rw [md_s_nextNames D]
  obtain ⟨f2, ef2⟩ : ∃ z9, z9 = va_up f1 6 (upd (f1 6) ((v 2)).toInt.toNat x2) := ⟨_, rfl⟩
  rw [← ef2]
  have pf_19 : f2 6 = upd (f1 6) ((v 2)).toInt.toNat x2 := by rw [ef2]; exact if_pos rfl
  have pg_19 : ∀ i9, i9 ≠ 6 → f2 i9 = f1 i9 := fun i9 h9 => by rw [ef2]; exact if_neg h9
  have hf2 : md_F f2 := by rw [ef2]; exact md_F_st hf1 6 _ _ (md_rng _ _ (by decide))
  have hw2 : f2 2 = f 2 := (show f2 2 = f1 2 by rw [ef2]; rfl).trans hw1
  have hr2_0 : f2 0 = f 0 := (show f2 0 = f1 0 by rw [ef2]; rfl).trans hr1_0
  have hr2_1 : f2 1 = f 1 := (show f2 1 = f1 1 by rw [ef2]; rfl).trans hr1_1
  refine Exists.intro _ (And.intro md_o ?_)
  have k1 : (1 : Int32).toInt = 1 := rfl
  intro m3 em_26
  try have e3 : m3.toInt = ((v 2)).toInt + (1) := by rw [em_26]; exact pm_addc _ _ (1) rfl (by omega) (by omega)
  refine Exists.intro _ (And.intro md_o (And.intro rfl ?_))
  rw [md_p_nextMany D]
  obtain ⟨v4, ev4⟩ : ∃ z9, z9 = upd v 2 m3 := ⟨_, rfl⟩
  rw [← ev4]
  have ev4_0 : (v4 0).toInt = (v 0).toInt := by rw [ev4]; rfl
  have ev4_1 : (v4 1).toInt = (v 1).toInt := by rw [ev4]; rfl
  have ev4_2 : (v4 2).toInt = (m3).toInt := by rw [ev4]; rfl
  have ev4_3 : (v4 3).toInt = (v 3).toInt := by rw [ev4]; rfl
  have ev4_4 : (v4 4).toInt = (v 4).toInt := by rw [ev4]; rfl
  have ev4_5 : (v4 5).toInt = (v 5).toInt := by rw [ev4]; rfl
  have ev4_6 : (v4 6).toInt = (v 6).toInt := by rw [ev4]; rfl
  have ev4_7 : (v4 7).toInt = (v 7).toInt := by rw [ev4]; rfl
  have pn_27 : v4 2 = m3 := by rw [ev4]; rfl
  have hv5 : md_V v4 := by unfold md_V; omega
  exact ⟨rfl, rfl, v4, f2, rfl, rfl, hv5, hf2, hw2, hr2_0, hr2_1, by first | omega | (dsimp only; omega) | trivial, by intro N hN; rw [pg_19 5 (by decide), pf_9, pf_19, pg_9 6 (by decide)]; exact rp_app hN (by omega) _ _⟩

set_option maxRecDepth 100000 in
set_option maxHeartbeats 2000000 in
theorem F_X11_laysFrom (D : md_D h q) (v : Nat → Int32) (f : Nat → Nat → Int32) (hv : md_V v) (hf : md_F f) (x1 : Int32) (x2 : Int32) (p0 : 0 ≤ x1.toInt ∧ x1.toInt ≤ 161) (p1 : x2.toInt ≤ 160) (p2 : (v 2).toInt + (x2.toInt - x1.toInt) ≤ 160) (p3 : x1.toInt ≤ x2.toInt) : pm_Mt l g 185 1 0 0 [.ref h, .int x1, .int x2] (md A0 g h q v f) (md_Qv A0 g h q f (fun v2 f2 => f2 0 = f 0 ∧ f2 1 = f 1 ∧ ((v2 0).toInt = (v 0).toInt ∧ (v2 1).toInt = (v 1).toInt ∧ (v2 3).toInt = (v 3).toInt ∧ (v2 4).toInt = (v 4).toInt ∧ (v2 6).toInt = (v 6).toInt ∧ (v2 2).toInt = (v 2).toInt + (x2.toInt - x1.toInt)) ∧ (∀ (L N : List pl_P) (a b : Int), rp (v 0) (f 0) (f 1) L → x1.toInt = a → x2.toInt = b → b ≤ (L.length : Int) → a ≤ b → rp (v 2) (f 5) (f 6) (N) → rp (v2 2) (f2 5) (f2 6) (N ++ si L a b)))) := by
  refine mt_X11_laysFrom rfl (fun J hC => ?_)
  have hv9 := hv
  unfold md_V at hv9
  have rg_x1 := pm_rng x1
  have rg_x2 := pm_rng x2
  refine hC.1 0 0 _ _ rfl _ _ _ _ _ ?_
  have lp2 : ∀ (n : Nat) (z3_2 : Int32) (v1 : Nat → Int32) (f1 : Nat → Nat → Int32), md_V v1 → md_F f1 → f1 2 = f 2 → f1 0 = f 0 → f1 1 = f 1 → (x1.toInt ≤ z3_2.toInt ∧ z3_2.toInt ≤ x2.toInt) → ((v1 2).toInt - z3_2.toInt = (v 2).toInt - x1.toInt) → (∀ L N, rp (v 0) (f 0) (f 1) L → x2.toInt ≤ (L.length : Int) → rp (v 2) (f 5) (f 6) (N) → rp (v1 2) (f1 5) (f1 6) (N ++ si L x1.toInt z3_2.toInt)) → (v1 0).toInt = (v 0).toInt → (v1 1).toInt = (v 1).toInt → (v1 3).toInt = (v 3).toInt → (v1 4).toInt = (v 4).toInt → (v1 6).toInt = (v 6).toInt → 200 - z3_2.toInt < (n : Int) → J 2 [some (.ref h), some (.int x1), some (.int x2), some (.int z3_2)] [] (md A0 g h q v1 f1) 0 0 := by
    intro n
    induction n with
    | zero =>
      intro z3_2 v1 f1 hv1 hf1 hw1 hr1_0 hr1_1 j0_2 j1_2 j2_2 j3_2 j4_2 j5_2 j6_2 j7_2 j8_2
      omega
    | succ n ih3 =>
      intro z3_2 v1 f1 hv1 hf1 hw1 hr1_0 hr1_1 j0_2 j1_2 j2_2 j3_2 j4_2 j5_2 j6_2 j7_2 j8_2
      have lr0 := hr1_0
      have lr1 := hr1_1
      refine hC.1 1 2 _ _ rfl _ _ _ _ _ ?_
      have hu4_2 := hv1.2.2.1
      refine And.intro (fun c5 => ?_) (fun c5 => ?_)
      · skip
        refine hC.1 2 29 _ _ rfl _ _ _ _ _ ?_
        exact ⟨rfl, rfl, v1, f1, rfl, rfl, hv1, hf1, hw1, hr1_0, hr1_1, by first | omega | (dsimp only; omega) | trivial, by intro L N a b h1 ha hb h2 h3 h4; subst ha; subst hb; have h5 := j2_2 L N h1 h2 h4; rw [show z3_2.toInt = x2.toInt by omega] at h5; exact h5⟩
      · skip
        refine Exists.intro _ (And.intro md_o ?_)
        refine Exists.intro _ (Exists.intro _ (And.intro (Or.inl (md_a_colours D)) (And.intro (by omega) ?_)))
        have w6 : (0 : Int) ≤ (f1 0 (z3_2).toInt.toNat).toInt ∧ (f1 0 (z3_2).toInt.toNat).toInt ≤ (23 : Int) := hf1 0 _
        refine Exists.intro _ (And.intro md_o ?_)
        refine Exists.intro _ (Exists.intro _ (And.intro (Or.inl (md_a_names D)) (And.intro (by omega) ?_)))
        refine And.intro (Exists.intro _ md_o) (Exists.intro _ (Exists.intro _ (Exists.intro _ (Exists.intro _ (And.intro (F_X11_lays D v1 f1 hv1 hf1 (f1 0 (z3_2).toInt.toNat) (f1 1 (z3_2).toInt.toNat) (by omega) (by omega)) (And.intro rfl (fun r9 A9 h9 => ?_)))))))
        obtain ⟨v8, f8, rfl, rfl, hv8, hf8, hx8, hg8_0, hg8_1, by7⟩ := h9
        have hw8 : f8 2 = f 2 := hx8.trans hw1
        have hr8_0 : f8 0 = f 0 := hg8_0.trans hr1_0
        have hr8_1 : f8 1 = f 1 := hg8_1.trans hr1_1
        have hu9_2 := hv8.2.2.1
        have hb9 := by7.2
        have k1 : (1 : Int32).toInt = 1 := rfl
        intro m10 em_23
        try have e10 : m10.toInt = (z3_2).toInt + (1) := by rw [em_23]; exact pm_addc _ _ (1) rfl (by omega) (by omega)
        exact ih3 m10 v8 f8 hv8 hf8 hw8 hr8_0 hr8_1 (by omega) (by omega) (by intro L N h1 h2 h3; rw [show m10.toInt = z3_2.toInt + 1 by omega, si_s h1 (by omega) (by omega) (by omega), ← List.append_assoc]; have h4 := hb9 _ (j2_2 L N h1 h2 h3); rw [lr0, lr1] at h4; exact h4) (by omega) (by omega) (by omega) (by omega) (by omega) (by omega)
  exact lp2 (200 - x1.toInt).toNat.succ x1 v f hv hf rfl rfl rfl (by omega) (by omega) (by intro L N h1 h2 h3; rw [si_n (Int.le_refl _), List.append_nil]; exact h3) (by omega) (by omega) (by omega) (by omega) (by omega) (by omega)

set_option maxRecDepth 100000 in
set_option maxHeartbeats 2000000 in
theorem F_X11_laysNew (D : md_D h q) (v : Nat → Int32) (f : Nat → Nat → Int32) (hv : md_V v) (hf : md_F f) (x1 : Int32) (p0 : (v 2).toInt < 160) (p1 : 0 ≤ x1.toInt ∧ x1.toInt ≤ 23) (p2 : (v 3).toInt < 10000) : pm_Mt l g 186 1 0 0 [.ref h, .int x1] (md A0 g h q v f) (md_Qv A0 g h q f (fun v2 f2 => f2 0 = f 0 ∧ f2 1 = f 1 ∧ ((v2 0).toInt = (v 0).toInt ∧ (v2 1).toInt = (v 1).toInt ∧ (v2 4).toInt = (v 4).toInt ∧ (v2 6).toInt = (v 6).toInt ∧ (v2 2).toInt = (v 2).toInt + 1 ∧ (v2 3).toInt = (v 3).toInt + 1) ∧ (∀ (N : List pl_P) (g9 : Int32), (v 3).toInt = g9.toInt → rp (v 2) (f 5) (f 6) (N) → rp (v2 2) (f2 5) (f2 6) (N ++ [(x1, g9)])))) := by
  refine mt_X11_laysNew rfl (fun J hC => ?_)
  have hv9 := hv
  unfold md_V at hv9
  have rg_x1 := pm_rng x1
  refine hC.1 0 0 _ _ rfl _ _ _ _ _ ?_
  refine Exists.intro _ (And.intro md_o ?_)
  refine And.intro (Exists.intro _ md_o) (Exists.intro _ (Exists.intro _ (Exists.intro _ (Exists.intro _ (And.intro (F_X11_lays D v f hv hf x1 (v 3) (by omega) (by omega)) (And.intro rfl (fun r9 A9 h9 => ?_)))))))
  obtain ⟨v2, f2, rfl, rfl, hv2, hf2, hx2, hg2_0, hg2_1, by1⟩ := h9
  have hw2 : f2 2 = f 2 := hx2.trans rfl
  have hr2_0 : f2 0 = f 0 := hg2_0.trans rfl
  have hr2_1 : f2 1 = f 1 := hg2_1.trans rfl
  have hu3_2 := hv2.2.2.1
  have hb9 := by1.2
  refine Exists.intro _ (And.intro md_o ?_)
  have k1 : (1 : Int32).toInt = 1 := rfl
  intro m4 em_15
  try have e4 : m4.toInt = ((v2 3)).toInt + (1) := by rw [em_15]; exact pm_addc _ _ (1) rfl (by omega) (by omega)
  refine Exists.intro _ (And.intro md_o (And.intro rfl ?_))
  rw [md_p_given D]
  obtain ⟨v5, ev5⟩ : ∃ z9, z9 = upd v2 3 m4 := ⟨_, rfl⟩
  rw [← ev5]
  have ev5_0 : (v5 0).toInt = (v2 0).toInt := by rw [ev5]; rfl
  have ev5_1 : (v5 1).toInt = (v2 1).toInt := by rw [ev5]; rfl
  have ev5_2 : (v5 2).toInt = (v2 2).toInt := by rw [ev5]; rfl
  have ev5_3 : (v5 3).toInt = (m4).toInt := by rw [ev5]; rfl
  have ev5_4 : (v5 4).toInt = (v2 4).toInt := by rw [ev5]; rfl
  have ev5_5 : (v5 5).toInt = (v2 5).toInt := by rw [ev5]; rfl
  have ev5_6 : (v5 6).toInt = (v2 6).toInt := by rw [ev5]; rfl
  have ev5_7 : (v5 7).toInt = (v2 7).toInt := by rw [ev5]; rfl
  have pn_16 : v5 3 = m4 := by rw [ev5]; rfl
  have hv6 : md_V v5 := by unfold md_V; omega
  exact ⟨rfl, rfl, v5, f2, rfl, rfl, hv6, hf2, hw2, hr2_0, hr2_1, by first | omega | (dsimp only; omega) | trivial, by intro N g9 hg hN; rw [← pm_eqI hg]; exact rp_n (hb9 N hN) (by omega)⟩

set_option maxRecDepth 100000 in
set_option maxHeartbeats 2000000 in
theorem F_X11_keepsRow (D : md_D h q) (v : Nat → Int32) (f : Nat → Nat → Int32) (hv : md_V v) (hf : md_F f) (x1 : Int32)  : pm_Mt l g 178 0 0 0 [.ref h, .int x1] (md A0 g h q v f) (md_Qv A0 g h q f (fun v2 f2 => f2 0 = f 0 ∧ f2 1 = f 1 ∧ (v2 0).toInt = (v 0).toInt ∧ (v2 1).toInt = (v 1).toInt ∧ (v2 2).toInt = (v 2).toInt ∧ (v2 3).toInt = (v 3).toInt ∧ (v2 4).toInt = (v 4).toInt ∧ (v2 6).toInt = (v 6).toInt)) := by
  refine mt_X11_keepsRow rfl (fun J hC => ?_)
  have hv9 := hv
  unfold md_V at hv9
  have rg_x1 := pm_rng x1
  refine hC.1 0 0 _ _ rfl _ _ _ _ _ ?_
  refine Exists.intro _ (And.intro md_o ?_)
  have k40 : (40 : Int32).toInt = 40 := rfl
  refine And.intro (by decide) ?_
  intro m1 em_6
  try have e1 := pm_rem (v 4) (40 : Int32) (by omega) (by omega)
  try rw [← em_6] at e1
  refine Exists.intro _ (And.intro md_o ?_)
  refine Exists.intro _ (And.intro md_o ?_)
  refine Exists.intro _ (Exists.intro _ (And.intro (md_a_wasMany D) (And.intro (by omega) ?_)))
  rw [md_s_wasMany D]
  obtain ⟨f2, ef2⟩ : ∃ z9, z9 = va_up f 14 (upd (f 14) (m1).toInt.toNat (v 0)) := ⟨_, rfl⟩
  rw [← ef2]
  have hf2 : md_F f2 := by rw [ef2]; exact md_F_st hf 14 _ _ (by show (0 : Int) ≤ _ ∧ _ ≤ (160 : Int); omega)
  have hw2 : f2 2 = f 2 := (show f2 2 = f 2 by rw [ef2]; rfl).trans rfl
  have hr2_0 : f2 0 = f 0 := (show f2 0 = f 0 by rw [ef2]; rfl).trans rfl
  have hr2_1 : f2 1 = f 1 := (show f2 1 = f 1 by rw [ef2]; rfl).trans rfl
  refine Exists.intro _ (And.intro md_o ?_)
  refine Exists.intro _ (Exists.intro _ (And.intro (md_a_wasTouched D) (And.intro (by omega) ?_)))
  rw [md_s_wasTouched D]
  obtain ⟨f3, ef3⟩ : ∃ z9, z9 = va_up f2 15 (upd (f2 15) (m1).toInt.toNat x1) := ⟨_, rfl⟩
  rw [← ef3]
  have hf3 : md_F f3 := by rw [ef3]; exact md_F_st hf2 15 _ _ (md_rng _ _ (by decide))
  have hw3 : f3 2 = f 2 := (show f3 2 = f2 2 by rw [ef3]; rfl).trans hw2
  have hr3_0 : f3 0 = f 0 := (show f3 0 = f2 0 by rw [ef3]; rfl).trans hr2_0
  have hr3_1 : f3 1 = f 1 := (show f3 1 = f2 1 by rw [ef3]; rfl).trans hr2_1
  have k0 : (0 : Int32).toInt = 0 := rfl
  have lp5 : ∀ (n : Nat) (z3_27 : Int32) (v4 : Nat → Int32) (f4 : Nat → Nat → Int32), md_V v4 → md_F f4 → f4 2 = f 2 → f4 0 = f 0 → f4 1 = f 1 → (0 ≤ z3_27.toInt ∧ z3_27.toInt ≤ (v 0).toInt) → (v4 0).toInt = (v 0).toInt → (v4 1).toInt = (v 1).toInt → (v4 2).toInt = (v 2).toInt → (v4 3).toInt = (v 3).toInt → (v4 4).toInt = (v 4).toInt → (v4 6).toInt = (v 6).toInt → 200 - z3_27.toInt < (n : Int) → J 27 [some (.ref h), some (.int x1), some (.int m1), some (.int z3_27)] [] (md A0 g h q v4 f4) 0 0 := by
    intro n
    induction n with
    | zero =>
      intro z3_27 v4 f4 hv4 hf4 hw4 hr4_0 hr4_1 j0_27 j1_27 j2_27 j3_27 j4_27 j5_27 j6_27 j7_27
      omega
    | succ n ih6 =>
      intro z3_27 v4 f4 hv4 hf4 hw4 hr4_0 hr4_1 j0_27 j1_27 j2_27 j3_27 j4_27 j5_27 j6_27 j7_27
      refine hC.1 1 27 _ _ rfl _ _ _ _ _ ?_
      refine Exists.intro _ (And.intro md_o ?_)
      refine And.intro (fun c8 => ?_) (fun c8 => ?_)
      · skip
        refine hC.1 2 77 _ _ rfl _ _ _ _ _ ?_
        exact ⟨rfl, rfl, v4, f4, rfl, rfl, hv4, hf4, hw4, hr4_0, hr4_1, by first | omega | (dsimp only; omega) | trivial⟩
      · skip
        refine Exists.intro _ (And.intro md_o ?_)
        have k160 : (160 : Int32).toInt = 160 := rfl
        intro m9 em_43
        try have e9 : m9.toInt = (160) * (m1).toInt := by rw [em_43]; exact pm_mulk _ _ (160) rfl (by omega) (by omega)
        intro m10 em_45
        try have e10 : m10.toInt = (m9).toInt + (z3_27).toInt := by rw [em_45]; exact pm_add _ _ (by omega) (by omega)
        refine Exists.intro _ (And.intro md_o ?_)
        refine Exists.intro _ (Exists.intro _ (And.intro (Or.inl (md_a_colours D)) (And.intro (by omega) ?_)))
        have w11 : (0 : Int) ≤ (f4 0 (z3_27).toInt.toNat).toInt ∧ (f4 0 (z3_27).toInt.toNat).toInt ≤ (23 : Int) := hf4 0 _
        refine Exists.intro _ (Exists.intro _ (And.intro (md_a_wasColours D) (And.intro (by omega) ?_)))
        rw [md_s_wasColours D]
        obtain ⟨f12, ef12⟩ : ∃ z9, z9 = va_up f4 12 (upd (f4 12) (m10).toInt.toNat (f4 0 (z3_27).toInt.toNat)) := ⟨_, rfl⟩
        rw [← ef12]
        have hf12 : md_F f12 := by rw [ef12]; exact md_F_st hf4 12 _ _ (by show (0 : Int) ≤ _ ∧ _ ≤ (23 : Int); omega)
        have hw12 : f12 2 = f 2 := (show f12 2 = f4 2 by rw [ef12]; rfl).trans hw4
        have hr12_0 : f12 0 = f 0 := (show f12 0 = f4 0 by rw [ef12]; rfl).trans hr4_0
        have hr12_1 : f12 1 = f 1 := (show f12 1 = f4 1 by rw [ef12]; rfl).trans hr4_1
        refine Exists.intro _ (And.intro md_o ?_)
        intro m13 em_61
        try have e13 : m13.toInt = (160) * (m1).toInt := by rw [em_61]; exact pm_mulk _ _ (160) rfl (by omega) (by omega)
        intro m14 em_63
        try have e14 : m14.toInt = (m13).toInt + (z3_27).toInt := by rw [em_63]; exact pm_add _ _ (by omega) (by omega)
        refine Exists.intro _ (And.intro md_o ?_)
        refine Exists.intro _ (Exists.intro _ (And.intro (Or.inl (md_a_names D)) (And.intro (by omega) ?_)))
        refine Exists.intro _ (Exists.intro _ (And.intro (md_a_wasNames D) (And.intro (by omega) ?_)))
        rw [md_s_wasNames D]
        obtain ⟨f15, ef15⟩ : ∃ z9, z9 = va_up f12 13 (upd (f12 13) (m14).toInt.toNat (f12 1 (z3_27).toInt.toNat)) := ⟨_, rfl⟩
        rw [← ef15]
        have hf15 : md_F f15 := by rw [ef15]; exact md_F_st hf12 13 _ _ (md_rng _ _ (by decide))
        have hw15 : f15 2 = f 2 := (show f15 2 = f12 2 by rw [ef15]; rfl).trans hw12
        have hr15_0 : f15 0 = f 0 := (show f15 0 = f12 0 by rw [ef15]; rfl).trans hr12_0
        have hr15_1 : f15 1 = f 1 := (show f15 1 = f12 1 by rw [ef15]; rfl).trans hr12_1
        have k1 : (1 : Int32).toInt = 1 := rfl
        intro m16 em_71
        try have e16 : m16.toInt = (z3_27).toInt + (1) := by rw [em_71]; exact pm_addc _ _ (1) rfl (by omega) (by omega)
        exact ih6 m16 v4 f15 hv4 hf15 hw15 hr15_0 hr15_1 (by omega) (by omega) (by omega) (by omega) (by omega) (by omega) (by omega) (by omega)
  exact lp5 (200 - (0 : Int32).toInt).toNat.succ (0 : Int32) v f3 hv hf3 hw3 hr3_0 hr3_1 (by omega) (by omega) (by omega) (by omega) (by omega) (by omega) (by omega) (by omega)

end
end
section
section
variable {l : Launch} {g : pm_G} {A0 : pm_H} {h : Nat} {q : Nat → Nat}
set_option maxRecDepth 100000 in
set_option maxHeartbeats 2000000 in
theorem F_X11_ends (D : md_D h q) (v : Nat → Int32) (f : Nat → Nat → Int32) (hv : md_V v) (hf : md_F f) (p0 : (v 4).toInt < 100000) : pm_Mt l g 176 3 0 0 [.ref h] (md A0 g h q v f) (md_Qw A0 g h q f (fun r v2 f2 => ((v2 1).toInt = (v 1).toInt ∧ (v2 2).toInt = (v 2).toInt ∧ (v2 3).toInt = (v 3).toInt ∧ (v2 6).toInt = (v 6).toInt ∧ (v2 4).toInt = (v 4).toInt + 1 ∧ (v2 0).toInt = (v 2).toInt) ∧ (∀ N, rp (v 2) (f 5) (f 6) (N) → rp (v2 0) (f2 0) (f2 1) N))) := by
  refine mt_X11_ends rfl (fun J hC => ?_)
  have hv9 := hv
  unfold md_V at hv9
  refine hC.1 0 0 _ _ rfl _ _ _ _ _ ?_
  refine Exists.intro _ (And.intro md_o ?_)
  refine Exists.intro _ (And.intro md_o (And.intro rfl ?_))
  rw [md_p_many D]
  obtain ⟨v1, ev1⟩ : ∃ z9, z9 = upd v 0 (v 2) := ⟨_, rfl⟩
  rw [← ev1]
  have ev1_0 : (v1 0).toInt = ((v 2)).toInt := by rw [ev1]; rfl
  have ev1_1 : (v1 1).toInt = (v 1).toInt := by rw [ev1]; rfl
  have ev1_2 : (v1 2).toInt = (v 2).toInt := by rw [ev1]; rfl
  have ev1_3 : (v1 3).toInt = (v 3).toInt := by rw [ev1]; rfl
  have ev1_4 : (v1 4).toInt = (v 4).toInt := by rw [ev1]; rfl
  have ev1_5 : (v1 5).toInt = (v 5).toInt := by rw [ev1]; rfl
  have ev1_6 : (v1 6).toInt = (v 6).toInt := by rw [ev1]; rfl
  have ev1_7 : (v1 7).toInt = (v 7).toInt := by rw [ev1]; rfl
  have pn_5 : v1 0 = (v 2) := by rw [ev1]; rfl
  have k0 : (0 : Int32).toInt = 0 := rfl
  have lp3 : ∀ (n : Nat) (z1_10 : Int32) (v2 : Nat → Int32) (f2 : Nat → Nat → Int32), md_V v2 → md_F f2 → f2 2 = f 2 → f2 5 = f 5 → f2 6 = f 6 → (0 ≤ z1_10.toInt ∧ z1_10.toInt ≤ (v 2).toInt) → ((v2 0).toInt = (v 2).toInt ∧ (v2 4).toInt = (v 4).toInt) → (∀ j : Nat, (j : Int) < z1_10.toInt → f2 0 j = f 5 j ∧ f2 1 j = f 6 j) → (v2 1).toInt = (v 1).toInt → (v2 2).toInt = (v 2).toInt → (v2 3).toInt = (v 3).toInt → (v2 6).toInt = (v 6).toInt → 200 - z1_10.toInt < (n : Int) → J 10 [some (.ref h), some (.int z1_10), none] [] (md A0 g h q v2 f2) 0 0 := by
    intro n
    induction n with
    | zero =>
      intro z1_10 v2 f2 hv2 hf2 hw2 hr2_5 hr2_6 j0_10 j1_10 j2_10 j3_10 j4_10 j5_10 j6_10 j7_10
      clear ev1_0 ev1_1 ev1_2 ev1_3 ev1_4 ev1_5 ev1_6 ev1_7
      omega
    | succ n ih4 =>
      intro z1_10 v2 f2 hv2 hf2 hw2 hr2_5 hr2_6 j0_10 j1_10 j2_10 j3_10 j4_10 j5_10 j6_10 j7_10
      clear ev1_0 ev1_1 ev1_2 ev1_3 ev1_4 ev1_5 ev1_6 ev1_7
      have lr5 := hr2_5
      have lr6 := hr2_6
      refine hC.1 1 10 _ _ rfl _ _ _ _ _ ?_
      have hu5_0 := hv2.1
      have hu5_4 := hv2.2.2.2.2.1
      refine Exists.intro _ (And.intro md_o ?_)
      refine And.intro (fun c6 => ?_) (fun c6 => ?_)
      · skip
        refine hC.1 2 48 _ _ rfl _ _ _ _ _ ?_
        have lp7 : ∀ (n : Nat) (z1_52 : Int32) (z2_52 : Int32), (0 ≤ z2_52.toInt ∧ z2_52.toInt ≤ (v 2).toInt) → 200 - z2_52.toInt < (n : Int) → J 52 [some (.ref h), some (.int z1_52), some (.int z2_52)] [] (md A0 g h q v2 f2) 0 0 := by
          intro n
          induction n with
          | zero =>
            intro z1_52 z2_52 j0_52 j1_52
            omega
          | succ n ih8 =>
            intro z1_52 z2_52 j0_52 j1_52
            refine hC.1 3 52 _ _ rfl _ _ _ _ _ ?_
            refine Exists.intro _ (And.intro md_o ?_)
            refine And.intro (fun c9 => ?_) (fun c9 => ?_)
            · skip
              refine hC.1 6 82 _ _ rfl _ _ _ _ _ ?_
              refine Exists.intro _ (And.intro md_o ?_)
              have k1 : (1 : Int32).toInt = 1 := rfl
              intro m10 em_88
              try have e10 : m10.toInt = ((v2 4)).toInt + (1) := by rw [em_88]; exact pm_addc _ _ (1) rfl (by omega) (by omega)
              refine Exists.intro _ (And.intro md_o (And.intro rfl ?_))
              rw [md_p_edits D]
              obtain ⟨v11, ev11⟩ : ∃ z9, z9 = upd v2 4 m10 := ⟨_, rfl⟩
              rw [← ev11]
              have ev11_0 : (v11 0).toInt = (v2 0).toInt := by rw [ev11]; rfl
              have ev11_1 : (v11 1).toInt = (v2 1).toInt := by rw [ev11]; rfl
              have ev11_2 : (v11 2).toInt = (v2 2).toInt := by rw [ev11]; rfl
              have ev11_3 : (v11 3).toInt = (v2 3).toInt := by rw [ev11]; rfl
              have ev11_4 : (v11 4).toInt = (m10).toInt := by rw [ev11]; rfl
              have ev11_5 : (v11 5).toInt = (v2 5).toInt := by rw [ev11]; rfl
              have ev11_6 : (v11 6).toInt = (v2 6).toInt := by rw [ev11]; rfl
              have ev11_7 : (v11 7).toInt = (v2 7).toInt := by rw [ev11]; rfl
              have pn_89 : v11 4 = m10 := by rw [ev11]; rfl
              refine Exists.intro _ (And.intro md_o ?_)
              intro m12 em_98
              refine Exists.intro _ (And.intro md_o (And.intro rfl ?_))
              rw [md_p_touchedAll D]
              obtain ⟨v13, ev13⟩ : ∃ z9, z9 = upd v11 5 m12 := ⟨_, rfl⟩
              rw [← ev13]
              have ev13_0 : (v13 0).toInt = (v11 0).toInt := by rw [ev13]; rfl
              have ev13_1 : (v13 1).toInt = (v11 1).toInt := by rw [ev13]; rfl
              have ev13_2 : (v13 2).toInt = (v11 2).toInt := by rw [ev13]; rfl
              have ev13_3 : (v13 3).toInt = (v11 3).toInt := by rw [ev13]; rfl
              have ev13_4 : (v13 4).toInt = (v11 4).toInt := by rw [ev13]; rfl
              have ev13_5 : (v13 5).toInt = (m12).toInt := by rw [ev13]; rfl
              have ev13_6 : (v13 6).toInt = (v11 6).toInt := by rw [ev13]; rfl
              have ev13_7 : (v13 7).toInt = (v11 7).toInt := by rw [ev13]; rfl
              have pn_99 : v13 5 = m12 := by rw [ev13]; rfl
              have hv14 : md_V v13 := by unfold md_V; omega
              refine And.intro (Exists.intro _ md_o) (Exists.intro _ (Exists.intro _ (Exists.intro _ (Exists.intro _ (And.intro (F_X11_keepsRow D v13 f2 hv14 hf2 z1_52 ) (And.intro rfl (fun r9 A9 h9 => ?_)))))))
              obtain ⟨v16, f16, rfl, rfl, hv16, hf16, hx16, hg16_0, hg16_1, by15⟩ := h9
              have hw16 : f16 2 = f 2 := hx16.trans hw2
              have pr_104_0 := hg16_0
              have pr_104_1 := hg16_1
              exact ⟨rfl, fun e9 => absurd e9 (by decide), rfl, z1_52, v16, f16, rfl, rfl, hv16, hf16, hw16, by first | omega | (dsimp only; omega) | trivial, by intro N hN; refine rp_cp hN (by omega) (fun j hj => ?_); rw [pr_104_0, pr_104_1]; exact j2_10 j (by omega)⟩
            · skip
              refine And.intro (Exists.intro _ md_o) (Exists.intro _ (Exists.intro _ (Exists.intro _ (Exists.intro _ (And.intro (c_X11_isTouched D v2 f2 hv2 hf2 z2_52 (by omega)) (And.intro rfl (fun r9 A9 h9 => ?_)))))))
              rcases h9 with ⟨y18, rfl, rfl, ⟨rfl, by18⟩ | ⟨rfl, by18⟩⟩
              · skip
                have k1 : (1 : Int32).toInt = 1 := rfl
                refine And.intro (fun c9 => absurd c9 (by decide)) (fun _ => ?_)
                refine hC.1 5 74 _ _ rfl _ _ _ _ _ ?_
                intro m19 em_74
                intro m20 em_76
                try have e20 : m20.toInt = (z2_52).toInt + (1) := by rw [em_76]; exact pm_addc _ _ (1) rfl (by omega) (by omega)
                exact ih8 m19 m20 (by omega) (by omega)
              · skip
                refine And.intro (fun _ => ?_) (fun c9 => absurd c9 (by decide))
                refine hC.1 4 73 _ _ rfl _ _ _ _ _ ?_
                refine hC.1 5 74 _ _ rfl _ _ _ _ _ ?_
                intro m21 em_74
                have k1 : (1 : Int32).toInt = 1 := rfl
                intro m22 em_76
                try have e22 : m22.toInt = (z2_52).toInt + (1) := by rw [em_76]; exact pm_addc _ _ (1) rfl (by omega) (by omega)
                exact ih8 m21 m22 (by omega) (by omega)
        exact lp7 (200 - (0 : Int32).toInt).toNat.succ (0 : Int32) (0 : Int32) (by omega) (by omega)
      · skip
        refine Exists.intro _ (And.intro md_o ?_)
        refine Exists.intro _ (And.intro md_o ?_)
        refine Exists.intro _ (Exists.intro _ (And.intro (Or.inl (md_a_nextColours D)) (And.intro (by omega) ?_)))
        have w23 : (0 : Int) ≤ (f2 5 (z1_10).toInt.toNat).toInt ∧ (f2 5 (z1_10).toInt.toNat).toInt ≤ (23 : Int) := hf2 5 _
        refine Exists.intro _ (Exists.intro _ (And.intro (md_a_colours D) (And.intro (by omega) ?_)))
        rw [md_s_colours D]
        obtain ⟨f24, ef24⟩ : ∃ z9, z9 = va_up f2 0 (upd (f2 0) (z1_10).toInt.toNat (f2 5 (z1_10).toInt.toNat)) := ⟨_, rfl⟩
        rw [← ef24]
        have pf_29 : f24 0 = upd (f2 0) (z1_10).toInt.toNat (f2 5 (z1_10).toInt.toNat) := by rw [ef24]; exact if_pos rfl
        have pg_29 : ∀ i9, i9 ≠ 0 → f24 i9 = f2 i9 := fun i9 h9 => by rw [ef24]; exact if_neg h9
        have hf24 : md_F f24 := by rw [ef24]; exact md_F_st hf2 0 _ _ (by show (0 : Int) ≤ _ ∧ _ ≤ (23 : Int); omega)
        have hw24 : f24 2 = f 2 := (show f24 2 = f2 2 by rw [ef24]; rfl).trans hw2
        have hr24_5 : f24 5 = f 5 := (show f24 5 = f2 5 by rw [ef24]; rfl).trans hr2_5
        have hr24_6 : f24 6 = f 6 := (show f24 6 = f2 6 by rw [ef24]; rfl).trans hr2_6
        refine Exists.intro _ (And.intro md_o ?_)
        refine Exists.intro _ (And.intro md_o ?_)
        refine Exists.intro _ (Exists.intro _ (And.intro (Or.inl (md_a_nextNames D)) (And.intro (by omega) ?_)))
        refine Exists.intro _ (Exists.intro _ (And.intro (md_a_names D) (And.intro (by omega) ?_)))
        rw [md_s_names D]
        obtain ⟨f25, ef25⟩ : ∃ z9, z9 = va_up f24 1 (upd (f24 1) (z1_10).toInt.toNat (f24 6 (z1_10).toInt.toNat)) := ⟨_, rfl⟩
        rw [← ef25]
        have pf_41 : f25 1 = upd (f24 1) (z1_10).toInt.toNat (f24 6 (z1_10).toInt.toNat) := by rw [ef25]; exact if_pos rfl
        have pg_41 : ∀ i9, i9 ≠ 1 → f25 i9 = f24 i9 := fun i9 h9 => by rw [ef25]; exact if_neg h9
        have hf25 : md_F f25 := by rw [ef25]; exact md_F_st hf24 1 _ _ (md_rng _ _ (by decide))
        have hw25 : f25 2 = f 2 := (show f25 2 = f24 2 by rw [ef25]; rfl).trans hw24
        have hr25_5 : f25 5 = f 5 := (show f25 5 = f24 5 by rw [ef25]; rfl).trans hr24_5
        have hr25_6 : f25 6 = f 6 := (show f25 6 = f24 6 by rw [ef25]; rfl).trans hr24_6
        have k1 : (1 : Int32).toInt = 1 := rfl
        intro m26 em_42
        try have e26 : m26.toInt = (z1_10).toInt + (1) := by rw [em_42]; exact pm_addc _ _ (1) rfl (by omega) (by omega)
        exact ih4 m26 v2 f25 hv2 hf25 hw25 hr25_5 hr25_6 (by omega) (by omega) (by intro j hj; rw [pg_41 0 (by decide), pf_29, pf_41, pg_29 1 (by decide), pg_29 6 (by decide), lr5, lr6]; by_cases hjz : j = z1_10.toInt.toNat; (subst hjz; exact ⟨pk_us, pk_us⟩); (rw [pk_un hjz, pk_un hjz]; exact j2_10 j (by omega))) (by omega) (by omega) (by omega) (by omega) (by omega)
  have hv27 : md_V v1 := by unfold md_V; omega
  exact lp3 (200 - (0 : Int32).toInt).toNat.succ (0 : Int32) v1 f hv27 hf rfl rfl rfl (by omega) (by omega) (by intro j hj; omega) (by omega) (by omega) (by omega) (by omega) (by omega)

end
end
section
/-! the edits, as lists -/
theorem si_c {n : Int32} {c m : Nat → Int32} {L : List pl_P} (h : rp n c m L) {a b : Int} (h0 : 0 ≤ a) (ha : a < b) (hb : b ≤ (L.length : Int)) : si L a b = (c a.toNat, m a.toNat) :: si L (a + 1) b := by
  unfold si sl
  rw [List.drop_eq_getElem_cons (i := a.toNat) (by omega), show b.toNat - a.toNat = (b.toNat - (a + 1).toNat) + 1 by omega, List.take_succ_cons, rp_at h (by omega), show (a + 1).toNat = a.toNat + 1 by omega]
noncomputable def ed_insert (L : List pl_P) (g : Int32) (p c : Int32) : Option (List pl_P) := if (0 ≤ p.toInt ∧ p.toInt ≤ (L.length : Int)) ∧ (0 ≤ c.toInt ∧ c.toInt ≤ 23) ∧ (L.length : Int) + 1 ≤ 160 ∧ g.toInt + 1 ≤ 10000 then some (si L 0 p.toInt ++ [(c, g)] ++ si L p.toInt L.length) else none
noncomputable def ed_cut (L : List pl_P) (l r : Int32) : Option (List pl_P) := if 0 ≤ l.toInt ∧ l.toInt ≤ r.toInt ∧ r.toInt < (L.length : Int) then some (si L 0 l.toInt ++ si L (r.toInt + 1) L.length) else none
noncomputable def ed_shift (L : List pl_P) (l r n : Int32) : Option (List pl_P) := if (0 ≤ l.toInt ∧ l.toInt ≤ r.toInt ∧ r.toInt < (L.length : Int)) ∧ 0 ≤ n.toInt ∧ n.toInt ≤ r.toInt - l.toInt + 1 then some (si L 0 l.toInt ++ si L (l.toInt + n.toInt) (r.toInt + 1) ++ si L l.toInt (l.toInt + n.toInt) ++ si L (r.toInt + 1) L.length) else none
noncomputable def sw_l (L : List pl_P) (a b c d : Int) : List pl_P := si L 0 a ++ si L c (d + 1) ++ si L (b + 1) c ++ si L a (b + 1) ++ si L (d + 1) L.length
noncomputable def ed_swap (L : List pl_P) (l r f t : Int32) : Option (List pl_P) := if (0 ≤ l.toInt ∧ l.toInt ≤ r.toInt ∧ r.toInt < (L.length : Int)) ∧ (0 ≤ f.toInt ∧ f.toInt ≤ t.toInt ∧ t.toInt < (L.length : Int)) ∧ (r.toInt < f.toInt ∨ t.toInt < l.toInt) then some (if r.toInt < f.toInt then sw_l L l.toInt r.toInt f.toInt t.toInt else sw_l L f.toInt t.toInt l.toInt r.toInt) else none
noncomputable def ed_turn (L : List pl_P) (l r : Int32) : Option (List pl_P) := if 0 ≤ l.toInt ∧ l.toInt ≤ r.toInt ∧ r.toInt < (L.length : Int) then some (si L 0 l.toInt ++ (si L l.toInt (r.toInt + 1)).reverse ++ si L (r.toInt + 1) L.length) else none
noncomputable def nw_l (g : Int32) : List Int32 → List pl_P
  | [] => []
  | c :: r => (c, g) :: nw_l (g + 1) r
theorem nw_app {c : Int32} : ∀ {cs : List Int32} {g g2 : Int32}, g2.toInt = g.toInt + (cs.length : Int) → g.toInt + (cs.length : Int) < 2147483647 → nw_l g (cs ++ [c]) = nw_l g cs ++ [(c, g2)]
  | [], g, g2, h, _ => by
    have e : g2 = g := pm_eqI (by rw [h]; simp)
    rw [e]; rfl
  | x :: r, g, g2, h, hb => by
    have h1 : ((x :: r).length : Int) = (r.length : Int) + 1 := by simp
    have hr := pm_rng g
    have h2 : (g + 1).toInt = g.toInt + 1 := pm_addc g 1 1 rfl (by omega) (by omega)
    show (x, g) :: nw_l (g + 1) (r ++ [c]) = (x, g) :: (nw_l (g + 1) r ++ [(c, g2)])
    rw [nw_app (cs := r) (g := g + 1) (g2 := g2) (by omega) (by omega)]
theorem nw_len (g : Int32) (cs : List Int32) : (nw_l g cs).length = cs.length := by
  induction cs generalizing g with
  | nil => rfl
  | cons x r ih => show (nw_l (g + 1) r).length + 1 = r.length + 1; rw [ih]
noncomputable def ed_copy (L : List pl_P) (g : Int32) (l r p : Int32) : Option (List pl_P) := if (0 ≤ l.toInt ∧ l.toInt ≤ r.toInt ∧ r.toInt < (L.length : Int)) ∧ (0 ≤ p.toInt ∧ p.toInt ≤ (L.length : Int)) ∧ (L.length : Int) + (r.toInt - l.toInt + 1) ≤ 160 ∧ g.toInt + (r.toInt - l.toInt + 1) ≤ 10000 then some (si L 0 p.toInt ++ nw_l g ((si L l.toInt (r.toInt + 1)).map Prod.fst) ++ si L p.toInt L.length) else none
noncomputable def ds (x : Int) : Nat → Int
  | 0 => x
  | i + 1 => (137 * ds x i + 71) % 10007
noncomputable def dr_l (x k : Int) (n : Nat) : List Int32 := (List.range n).map (fun j => Int32.ofInt (ds x (j + 1) % k))
theorem dr_s (x k : Int) (n : Nat) : dr_l x k (n + 1) = dr_l x k n ++ [Int32.ofInt (ds x (n + 1) % k)] := by
  unfold dr_l
  rw [List.range_succ, List.map_append]
  rfl
theorem dr_len (x k : Int) (n : Nat) : (dr_l x k n).length = n := by unfold dr_l; simp
noncomputable def ed_draw (L : List pl_P) (g : Int32) (s n k : Int32) : Option (List pl_P) := if (0 ≤ s.toInt ∧ s.toInt ≤ 9999) ∧ (1 ≤ n.toInt ∧ n.toInt ≤ 160) ∧ (1 ≤ k.toInt ∧ k.toInt ≤ 24) ∧ (L.length : Int) + n.toInt ≤ 160 ∧ g.toInt + n.toInt ≤ 10000 then some (L ++ nw_l g (dr_l s.toInt k.toInt n.toInt.toNat)) else none
noncomputable def st_l (M : List pl_P) : Nat → List pl_P
  | 0 => []
  | c + 1 => st_l M c ++ M.filter (fun p => decide (p.1.toInt = (c : Int)))
noncomputable def ed_sort (L : List pl_P) (l r : Int32) : Option (List pl_P) := if 0 ≤ l.toInt ∧ l.toInt ≤ r.toInt ∧ r.toInt < (L.length : Int) then some (si L 0 l.toInt ++ st_l (si L l.toInt (r.toInt + 1)) 24 ++ si L (r.toInt + 1) L.length) else none
theorem fl_y {M : List pl_P} {c : Int} {a b : Int32} (h : a.toInt = c) : (M ++ [(a, b)]).filter (fun p => decide (p.1.toInt = c)) = M.filter (fun p => decide (p.1.toInt = c)) ++ [(a, b)] := by
  rw [List.filter_append, List.filter_cons, if_pos (by simpa using h)]
  rfl
theorem fl_n {M : List pl_P} {c : Int} {a b : Int32} (h : ¬ a.toInt = c) : (M ++ [(a, b)]).filter (fun p => decide (p.1.toInt = c)) = M.filter (fun p => decide (p.1.toInt = c)) := by
  rw [List.filter_append, List.filter_cons, if_neg (by simpa using h)]
  simp
noncomputable def rc_l (L : List pl_P) (l r : Int) (h : Int32 → Int32) : List pl_P := si L 0 l ++ (si L l (r + 1)).map (fun p => (h p.1, p.2)) ++ si L (r + 1) L.length
noncomputable def ed_paint (L : List pl_P) (l r c : Int32) : Option (List pl_P) := if (0 ≤ l.toInt ∧ l.toInt ≤ r.toInt ∧ r.toInt < (L.length : Int)) ∧ 0 ≤ c.toInt ∧ c.toInt ≤ 23 then some (rc_l L l.toInt r.toInt (fun _ => c)) else none
noncomputable def ed_merge (L : List pl_P) (a b : Int32) : Option (List pl_P) := if (0 ≤ a.toInt ∧ a.toInt ≤ 23) ∧ (0 ≤ b.toInt ∧ b.toInt ≤ 23) ∧ a.toInt ≠ b.toInt then some (L.map (fun p => (if p.1 = a then b else p.1, p.2))) else none
noncomputable def ed_exch (L : List pl_P) (a b : Int32) : Option (List pl_P) := if (0 ≤ a.toInt ∧ a.toInt ≤ 23) ∧ (0 ≤ b.toInt ∧ b.toInt ≤ 23) ∧ a.toInt ≠ b.toInt then some (L.map (fun p => (if p.1 = a then b else if p.1 = b then a else p.1, p.2))) else none
noncomputable def rc_p (L : List pl_P) (l r : Int) (h : Int32 → Int32) (z : Int) : List pl_P := si L 0 (if z ≤ l then z else l) ++ (si L l (if z ≤ r + 1 then z else r + 1)).map (fun p => (h p.1, p.2)) ++ si L (r + 1) z
theorem rc_0 {L : List pl_P} {l r : Int} {h : Int32 → Int32} (h1 : 0 ≤ l) (h2 : l ≤ r + 1) : rc_p L l r h (0 : Int32).toInt = [] := by
  have k0 : (0 : Int32).toInt = 0 := rfl
  unfold rc_p
  rw [k0, if_pos h1, if_pos (by omega), si_n (L := L) (a := 0) (b := 0) (by omega), si_n (L := L) (a := l) (b := 0) h1, si_n (L := L) (a := r + 1) (b := 0) (by omega)]
  rfl
theorem rc_e {L : List pl_P} {l r : Int} {h : Int32 → Int32} (h1 : 0 ≤ l) (h2 : l ≤ r + 1) (h3 : r < (L.length : Int)) : rc_p L l r h L.length = rc_l L l r h := by
  unfold rc_p rc_l
  by_cases e1 : (L.length : Int) ≤ l
  · have e2 : (L.length : Int) = l := by omega
    rw [if_pos e1, e2]
    by_cases e3 : l ≤ r + 1
    · rw [if_pos e3]
      have e4 : l = r + 1 := by omega
      rw [← e4]
    · exact absurd h2 e3
  · rw [if_neg e1]
    by_cases e3 : (L.length : Int) ≤ r + 1
    · rw [if_pos e3, show (L.length : Int) = r + 1 by omega]
    · rw [if_neg e3]
theorem rc_s {n : Int32} {c m : Nat → Int32} {L : List pl_P} (hL : rp n c m L) {l r z : Int} {h : Int32 → Int32} (h1 : 0 ≤ l) (h2 : l ≤ r + 1) (h3 : r < (L.length : Int)) (hz : 0 ≤ z) (hz2 : z < (L.length : Int)) : rc_p L l r h (z + 1) = rc_p L l r h z ++ [(if l ≤ z ∧ z ≤ r then h (c z.toNat) else c z.toNat, m z.toNat)] := by
  unfold rc_p
  by_cases a1 : z < l
  · rw [if_pos (show z + 1 ≤ l by omega), if_pos (show z ≤ l by omega), if_pos (show z + 1 ≤ r + 1 by omega), if_pos (show z ≤ r + 1 by omega), if_neg (by omega), si_s hL (a := 0) (z := z) (by omega) (by omega) hz2, si_n (L := L) (a := l) (b := z + 1) (by omega), si_n (L := L) (a := l) (b := z) (by omega), si_n (L := L) (a := r + 1) (b := z + 1) (by omega), si_n (L := L) (a := r + 1) (b := z) (by omega)]
    simp
  · by_cases a2 : z ≤ r
    · have e1 : (if z ≤ l then z else l) = l := by split <;> omega
      rw [e1, if_neg (show ¬ z + 1 ≤ l by omega), if_pos (show z + 1 ≤ r + 1 by omega), if_pos (show z ≤ r + 1 by omega), if_pos (show l ≤ z ∧ z ≤ r from ⟨by omega, a2⟩), si_s hL (a := l) (z := z) h1 (by omega) hz2, si_n (L := L) (a := r + 1) (b := z + 1) (by omega), si_n (L := L) (a := r + 1) (b := z) (by omega)]
      simp
    · rw [if_neg (show ¬ z + 1 ≤ l by omega), if_neg (show ¬ z + 1 ≤ r + 1 by omega), if_neg (show ¬ (l ≤ z ∧ z ≤ r) by omega), si_s hL (a := r + 1) (z := z) (by omega) (by omega) hz2]
      have e1 : (if z ≤ l then z else l) = l := by split <;> omega
      have e2 : (if z ≤ r + 1 then z else r + 1) = r + 1 := by split <;> omega
      rw [e1, e2, List.append_assoc, List.append_assoc, List.append_assoc]
theorem rc_all (L : List pl_P) (h : Int32 → Int32) : rc_l L 0 (L.length - 1) h = L.map (fun p => (h p.1, p.2)) := by
  unfold rc_l
  rw [show (L.length : Int) - 1 + 1 = L.length by omega, si_all, si_n (L := L) (a := 0) (b := 0) (by omega), si_n (L := L) (a := L.length) (b := L.length) (by omega)]
  simp
end
section
section
variable {l : Launch} {g : pm_G} {A0 : pm_H} {h : Nat} {q : Nat → Nat}
set_option maxRecDepth 100000 in
set_option maxHeartbeats 2000000 in
theorem F_X11_insert (D : md_D h q) (v : Nat → Int32) (f : Nat → Nat → Int32) (hv : md_V v) (hf : md_F f) (x1 : Int32) (x2 : Int32) (p0 : (v 4).toInt < 100000) : pm_Mt l g 183 4 0 0 [.ref h, .int x1, .int x2] (md A0 g h q v f) (md_Qw A0 g h q f (fun r v2 f2 => ((v2 6).toInt = (v 6).toInt ∧ (v2 4).toInt ≤ (v 4).toInt + 1 ∧ (v 4).toInt ≤ (v2 4).toInt) ∧ (∀ L, rp (v 0) (f 0) (f 1) L → rp (v2 0) (f2 0) (f2 1) ((ed_insert L (v 3) x1 x2).getD L) ∧ (v2 4).toInt = (v 4).toInt + edn (ed_insert L (v 3) x1 x2) ∧ (v2 3).toInt = (v 3).toInt + edn (ed_insert L (v 3) x1 x2) * (1)))) := by
  refine mt_X11_insert rfl (fun J hC => ?_)
  have hv9 := hv
  unfold md_V at hv9
  have rg_x1 := pm_rng x1
  have rg_x2 := pm_rng x2
  refine hC.1 0 0 _ _ rfl _ _ _ _ _ ?_
  have k0 : (0 : Int32).toInt = 0 := rfl
  refine Exists.intro _ (And.intro md_o ?_)
  refine Exists.intro _ (Exists.intro _ (Exists.intro _ (Exists.intro _ (And.intro (c_X11_isIn (md A0 g h q v f) x1 (0 : Int32) (v 0) ) (And.intro rfl (fun r9 A9 h9 => ?_))))))
  rcases h9 with ⟨y1, rfl, rfl, ⟨rfl, by1⟩ | ⟨rfl, by1⟩⟩
  · skip
    have k1 : (1 : Int32).toInt = 1 := rfl
    refine And.intro (fun c9 => absurd c9 (by decide)) (fun _ => ?_)
    refine Exists.intro _ (Exists.intro _ (Exists.intro _ (Exists.intro _ (And.intro (c_X11_isColour (md A0 g h q v f) x2 ) (And.intro rfl (fun r9 A9 h9 => ?_))))))
    rcases h9 with ⟨y2, rfl, rfl, ⟨rfl, by2⟩ | ⟨rfl, by2⟩⟩
    · skip
      refine And.intro (fun c9 => absurd c9 (by decide)) (fun _ => ?_)
      refine And.intro (Exists.intro _ md_o) (Exists.intro _ (Exists.intro _ (Exists.intro _ (Exists.intro _ (And.intro (c_X11_hasRoom D v f hv hf (1 : Int32) (by omega)) (And.intro rfl (fun r9 A9 h9 => ?_)))))))
      rcases h9 with ⟨y3, rfl, rfl, ⟨rfl, by3⟩ | ⟨rfl, by3⟩⟩
      · skip
        refine And.intro (fun _ => ?_) (fun c9 => absurd c9 (by decide))
        refine hC.1 2 29 _ _ rfl _ _ _ _ _ ?_
        refine And.intro (Exists.intro _ md_o) (Exists.intro _ (Exists.intro _ (Exists.intro _ (Exists.intro _ (And.intro (F_X11_begins D v f hv hf  ) (And.intro rfl (fun r9 A9 h9 => ?_)))))))
        obtain ⟨v5, f5, rfl, rfl, hv5, hf5, hx5, hg5_0, hg5_1, by4⟩ := h9
        have hw5 : f5 2 = f 2 := hx5.trans rfl
        have hr5_0 : f5 0 = f 0 := hg5_0.trans rfl
        have hr5_1 : f5 1 = f 1 := hg5_1.trans rfl
        have hu6_1 := hv5.2.1
        have hu6_2 := hv5.2.2.1
        have sq5_0 : (v5 0).toInt = (v 0).toInt := by4.1
        have sq5_3 : (v5 3).toInt = (v 3).toInt := by4.2.1
        have sq5_4 : (v5 4).toInt = (v 4).toInt := by4.2.2.1
        have sq5_6 : (v5 6).toInt = (v 6).toInt := by4.2.2.2.1
        have sp5 := by4.2.2.2.2
        clear by4
        have hp_36 : ∀ L, rp (v 0) (f 0) (f 1) L → rp (v5 0) (f5 0) (f5 1) L := fun L h => rp_fr h (by omega) hr5_0 hr5_1
        refine And.intro (Exists.intro _ md_o) (Exists.intro _ (Exists.intro _ (Exists.intro _ (Exists.intro _ (And.intro (F_X11_laysFrom D v5 f5 hv5 hf5 (0 : Int32) x1 (by omega) (by omega) (by omega) (by omega)) (And.intro rfl (fun r9 A9 h9 => ?_)))))))
        obtain ⟨v8, f8, rfl, rfl, hv8, hf8, hx8, hg8_0, hg8_1, by7⟩ := h9
        have hw8 : f8 2 = f 2 := hx8.trans hw5
        have hr8_0 : f8 0 = f 0 := hg8_0.trans hr5_0
        have hr8_1 : f8 1 = f 1 := hg8_1.trans hr5_1
        have hu9_2 := hv8.2.2.1
        have hb_36 := by7.2
        have sq8_0 : (v8 0).toInt = (v 0).toInt := by7.1.1.trans sq5_0
        have sq8_1 : (v8 1).toInt = (v5 1).toInt := by7.1.2.1
        have sq8_3 : (v8 3).toInt = (v 3).toInt := by7.1.2.2.1.trans sq5_3
        have sq8_4 : (v8 4).toInt = (v 4).toInt := by7.1.2.2.2.1.trans sq5_4
        have sq8_6 : (v8 6).toInt = (v 6).toInt := by7.1.2.2.2.2.1.trans sq5_6
        have sp8 := by7.1.2.2.2.2.2
        clear by7
        refine And.intro (Exists.intro _ md_o) (Exists.intro _ (Exists.intro _ (Exists.intro _ (Exists.intro _ (And.intro (F_X11_laysNew D v8 f8 hv8 hf8 x2 (by omega) (by omega) (by omega)) (And.intro rfl (fun r9 A9 h9 => ?_)))))))
        obtain ⟨v11, f11, rfl, rfl, hv11, hf11, hx11, hg11_0, hg11_1, by10⟩ := h9
        have hw11 : f11 2 = f 2 := hx11.trans hw8
        have hr11_0 : f11 0 = f 0 := hg11_0.trans hr8_0
        have hr11_1 : f11 1 = f 1 := hg11_1.trans hr8_1
        have hu12_2 := hv11.2.2.1
        have hu12_3 := hv11.2.2.2.1
        have hb_41 := by10.2
        have sq11_0 : (v11 0).toInt = (v 0).toInt := by10.1.1.trans sq8_0
        have sq11_1 : (v11 1).toInt = (v5 1).toInt := by10.1.2.1.trans sq8_1
        have sq11_4 : (v11 4).toInt = (v 4).toInt := by10.1.2.2.1.trans sq8_4
        have sq11_6 : (v11 6).toInt = (v 6).toInt := by10.1.2.2.2.1.trans sq8_6
        have sp11 := by10.1.2.2.2.2
        clear by10
        refine Exists.intro _ (And.intro md_o ?_)
        have hp_50 : ∀ L, rp (v 0) (f 0) (f 1) L → rp (v11 0) (f11 0) (f11 1) L := fun L h => rp_fr h (by omega) hr11_0 hr11_1
        refine And.intro (Exists.intro _ md_o) (Exists.intro _ (Exists.intro _ (Exists.intro _ (Exists.intro _ (And.intro (F_X11_laysFrom D v11 f11 hv11 hf11 x1 (v11 0) (by omega) (by omega) (by omega) (by omega)) (And.intro rfl (fun r9 A9 h9 => ?_)))))))
        obtain ⟨v14, f14, rfl, rfl, hv14, hf14, hx14, hg14_0, hg14_1, by13⟩ := h9
        have hw14 : f14 2 = f 2 := hx14.trans hw11
        have hr14_0 : f14 0 = f 0 := hg14_0.trans hr11_0
        have hr14_1 : f14 1 = f 1 := hg14_1.trans hr11_1
        have hu15_2 := hv14.2.2.1
        have hb_50 := by13.2
        have sq14_0 : (v14 0).toInt = (v 0).toInt := by13.1.1.trans sq11_0
        have sq14_1 : (v14 1).toInt = (v5 1).toInt := by13.1.2.1.trans sq11_1
        have sq14_3 : (v14 3).toInt = (v11 3).toInt := by13.1.2.2.1
        have sq14_4 : (v14 4).toInt = (v 4).toInt := by13.1.2.2.2.1.trans sq11_4
        have sq14_6 : (v14 6).toInt = (v 6).toInt := by13.1.2.2.2.2.1.trans sq11_6
        have sp14 := by13.1.2.2.2.2.2
        clear by13
        refine And.intro (Exists.intro _ md_o) (Exists.intro _ (Exists.intro _ (Exists.intro _ (Exists.intro _ (And.intro (F_X11_ends D v14 f14 hv14 hf14  (by omega)) (And.intro rfl (fun r9 A9 h9 => ?_)))))))
        obtain ⟨y16, v17, f17, rfl, rfl, hv17, hf17, hx17, by16⟩ := h9
        have hw17 : f17 2 = f 2 := hx17.trans hw14
        have hu18_0 := hv17.1
        have hu18_4 := hv17.2.2.2.2.1
        have hb_54 := by16.2
        have sq17_1 : (v17 1).toInt = (v5 1).toInt := by16.1.1.trans sq14_1
        have sq17_2 : (v17 2).toInt = (v14 2).toInt := by16.1.2.1
        have sq17_3 : (v17 3).toInt = (v11 3).toInt := by16.1.2.2.1.trans sq14_3
        have sq17_6 : (v17 6).toInt = (v 6).toInt := by16.1.2.2.2.1.trans sq14_6
        have sp17 := by16.1.2.2.2.2
        clear by16
        exact ⟨rfl, fun e9 => absurd e9 (by decide), rfl, y16, v17, f17, rfl, rfl, hv17, hf17, hw17, by first | omega | (dsimp only; omega) | trivial, by intro L hL; have hl := hL.1; rw [ed_insert, if_pos (by omega)]; have t1 := hb_36 L [] (0) (x1.toInt) (hp_36 L hL) (by omega) (by omega) (by omega) (by omega) (rp_0 (by omega)); have t2 := hb_41 _ (v 3) (by omega) t1; have t3 := hb_50 L _ (x1.toInt) (L.length) (hp_50 L hL) (by omega) (by omega) (by omega) (by omega) t2; rw [List.nil_append] at t3; exact ⟨hb_54 _ t3, by show _ = _ + (1 : Int); omega, by show _ = _ + (1 : Int) * _; omega⟩⟩
      · skip
        refine And.intro (fun c9 => absurd c9 (by decide)) (fun _ => ?_)
        refine hC.1 1 27 _ _ rfl _ _ _ _ _ ?_
        have km1 : (-1 : Int32).toInt = -1 := rfl
        exact ⟨rfl, fun e9 => absurd e9 (by decide), rfl, (-1 : Int32), v, f, rfl, rfl, hv, hf, rfl, by first | omega | (dsimp only; omega) | trivial, by intro L hL; have hl := hL.1; rw [ed_insert, if_neg (by omega)]; exact ⟨hL, by show _ = _ + (0 : Int); omega, by show _ = _ + (0 : Int) * _; omega⟩⟩
    · skip
      refine And.intro (fun _ => ?_) (fun c9 => absurd c9 (by decide))
      refine hC.1 1 27 _ _ rfl _ _ _ _ _ ?_
      have km1 : (-1 : Int32).toInt = -1 := rfl
      exact ⟨rfl, fun e9 => absurd e9 (by decide), rfl, (-1 : Int32), v, f, rfl, rfl, hv, hf, rfl, by first | omega | (dsimp only; omega) | trivial, by intro L hL; have hl := hL.1; rw [ed_insert, if_neg (by omega)]; exact ⟨hL, by show _ = _ + (0 : Int); omega, by show _ = _ + (0 : Int) * _; omega⟩⟩
  · skip
    refine And.intro (fun _ => ?_) (fun c9 => absurd c9 (by decide))
    refine hC.1 1 27 _ _ rfl _ _ _ _ _ ?_
    have km1 : (-1 : Int32).toInt = -1 := rfl
    exact ⟨rfl, fun e9 => absurd e9 (by decide), rfl, (-1 : Int32), v, f, rfl, rfl, hv, hf, rfl, by first | omega | (dsimp only; omega) | trivial, by intro L hL; have hl := hL.1; rw [ed_insert, if_neg (by omega)]; exact ⟨hL, by show _ = _ + (0 : Int); omega, by show _ = _ + (0 : Int) * _; omega⟩⟩

set_option maxRecDepth 100000 in
set_option maxHeartbeats 2000000 in
theorem F_X11_cut (D : md_D h q) (v : Nat → Int32) (f : Nat → Nat → Int32) (hv : md_V v) (hf : md_F f) (x1 : Int32) (x2 : Int32) (p0 : (v 4).toInt < 100000) : pm_Mt l g 187 4 0 0 [.ref h, .int x1, .int x2] (md A0 g h q v f) (md_Qw A0 g h q f (fun r v2 f2 => ((v2 6).toInt = (v 6).toInt ∧ (v2 4).toInt ≤ (v 4).toInt + 1 ∧ (v 4).toInt ≤ (v2 4).toInt) ∧ (∀ L, rp (v 0) (f 0) (f 1) L → rp (v2 0) (f2 0) (f2 1) ((ed_cut L x1 x2).getD L) ∧ (v2 4).toInt = (v 4).toInt + edn (ed_cut L x1 x2) ∧ (v2 3).toInt = (v 3).toInt + edn (ed_cut L x1 x2) * (0)))) := by
  refine mt_X11_cut rfl (fun J hC => ?_)
  have hv9 := hv
  unfold md_V at hv9
  have rg_x1 := pm_rng x1
  have rg_x2 := pm_rng x2
  refine hC.1 0 0 _ _ rfl _ _ _ _ _ ?_
  refine And.intro (Exists.intro _ md_o) (Exists.intro _ (Exists.intro _ (Exists.intro _ (Exists.intro _ (And.intro (c_X11_isSpan D v f hv hf x1 x2 ) (And.intro rfl (fun r9 A9 h9 => ?_)))))))
  rcases h9 with ⟨y1, rfl, rfl, ⟨rfl, by1⟩ | ⟨rfl, by1⟩⟩
  · skip
    have k1 : (1 : Int32).toInt = 1 := rfl
    refine And.intro (fun _ => ?_) (fun c9 => absurd c9 (by decide))
    refine hC.1 1 11 _ _ rfl _ _ _ _ _ ?_
    refine And.intro (Exists.intro _ md_o) (Exists.intro _ (Exists.intro _ (Exists.intro _ (Exists.intro _ (And.intro (F_X11_begins D v f hv hf  ) (And.intro rfl (fun r9 A9 h9 => ?_)))))))
    obtain ⟨v3, f3, rfl, rfl, hv3, hf3, hx3, hg3_0, hg3_1, by2⟩ := h9
    have hw3 : f3 2 = f 2 := hx3.trans rfl
    have hr3_0 : f3 0 = f 0 := hg3_0.trans rfl
    have hr3_1 : f3 1 = f 1 := hg3_1.trans rfl
    have hu4_1 := hv3.2.1
    have hu4_2 := hv3.2.2.1
    have sq3_0 : (v3 0).toInt = (v 0).toInt := by2.1
    have sq3_3 : (v3 3).toInt = (v 3).toInt := by2.2.1
    have sq3_4 : (v3 4).toInt = (v 4).toInt := by2.2.2.1
    have sq3_6 : (v3 6).toInt = (v 6).toInt := by2.2.2.2.1
    have sp3 := by2.2.2.2.2
    clear by2
    have k0 : (0 : Int32).toInt = 0 := rfl
    have hp_18 : ∀ L, rp (v 0) (f 0) (f 1) L → rp (v3 0) (f3 0) (f3 1) L := fun L h => rp_fr h (by omega) hr3_0 hr3_1
    refine And.intro (Exists.intro _ md_o) (Exists.intro _ (Exists.intro _ (Exists.intro _ (Exists.intro _ (And.intro (F_X11_laysFrom D v3 f3 hv3 hf3 (0 : Int32) x1 (by omega) (by omega) (by omega) (by omega)) (And.intro rfl (fun r9 A9 h9 => ?_)))))))
    obtain ⟨v6, f6, rfl, rfl, hv6, hf6, hx6, hg6_0, hg6_1, by5⟩ := h9
    have hw6 : f6 2 = f 2 := hx6.trans hw3
    have hr6_0 : f6 0 = f 0 := hg6_0.trans hr3_0
    have hr6_1 : f6 1 = f 1 := hg6_1.trans hr3_1
    have hu7_2 := hv6.2.2.1
    have hb_18 := by5.2
    have sq6_0 : (v6 0).toInt = (v 0).toInt := by5.1.1.trans sq3_0
    have sq6_1 : (v6 1).toInt = (v3 1).toInt := by5.1.2.1
    have sq6_3 : (v6 3).toInt = (v 3).toInt := by5.1.2.2.1.trans sq3_3
    have sq6_4 : (v6 4).toInt = (v 4).toInt := by5.1.2.2.2.1.trans sq3_4
    have sq6_6 : (v6 6).toInt = (v 6).toInt := by5.1.2.2.2.2.1.trans sq3_6
    have sp6 := by5.1.2.2.2.2.2
    clear by5
    intro m8 em_24
    try have e8 : m8.toInt = (x2).toInt + (1) := by rw [em_24]; exact pm_addc _ _ (1) rfl (by omega) (by omega)
    refine Exists.intro _ (And.intro md_o ?_)
    have hp_29 : ∀ L, rp (v 0) (f 0) (f 1) L → rp (v6 0) (f6 0) (f6 1) L := fun L h => rp_fr h (by omega) hr6_0 hr6_1
    refine And.intro (Exists.intro _ md_o) (Exists.intro _ (Exists.intro _ (Exists.intro _ (Exists.intro _ (And.intro (F_X11_laysFrom D v6 f6 hv6 hf6 m8 (v6 0) (by omega) (by omega) (by omega) (by omega)) (And.intro rfl (fun r9 A9 h9 => ?_)))))))
    obtain ⟨v10, f10, rfl, rfl, hv10, hf10, hx10, hg10_0, hg10_1, by9⟩ := h9
    have hw10 : f10 2 = f 2 := hx10.trans hw6
    have hr10_0 : f10 0 = f 0 := hg10_0.trans hr6_0
    have hr10_1 : f10 1 = f 1 := hg10_1.trans hr6_1
    have hu11_2 := hv10.2.2.1
    have hb_29 := by9.2
    have sq10_0 : (v10 0).toInt = (v 0).toInt := by9.1.1.trans sq6_0
    have sq10_1 : (v10 1).toInt = (v3 1).toInt := by9.1.2.1.trans sq6_1
    have sq10_3 : (v10 3).toInt = (v 3).toInt := by9.1.2.2.1.trans sq6_3
    have sq10_4 : (v10 4).toInt = (v 4).toInt := by9.1.2.2.2.1.trans sq6_4
    have sq10_6 : (v10 6).toInt = (v 6).toInt := by9.1.2.2.2.2.1.trans sq6_6
    have sp10 := by9.1.2.2.2.2.2
    clear by9
    refine And.intro (Exists.intro _ md_o) (Exists.intro _ (Exists.intro _ (Exists.intro _ (Exists.intro _ (And.intro (F_X11_ends D v10 f10 hv10 hf10  (by omega)) (And.intro rfl (fun r9 A9 h9 => ?_)))))))
    obtain ⟨y12, v13, f13, rfl, rfl, hv13, hf13, hx13, by12⟩ := h9
    have hw13 : f13 2 = f 2 := hx13.trans hw10
    have hu14_0 := hv13.1
    have hu14_4 := hv13.2.2.2.2.1
    have hb_33 := by12.2
    have sq13_1 : (v13 1).toInt = (v3 1).toInt := by12.1.1.trans sq10_1
    have sq13_2 : (v13 2).toInt = (v10 2).toInt := by12.1.2.1
    have sq13_3 : (v13 3).toInt = (v 3).toInt := by12.1.2.2.1.trans sq10_3
    have sq13_6 : (v13 6).toInt = (v 6).toInt := by12.1.2.2.2.1.trans sq10_6
    have sp13 := by12.1.2.2.2.2
    clear by12
    exact ⟨rfl, fun e9 => absurd e9 (by decide), rfl, y12, v13, f13, rfl, rfl, hv13, hf13, hw13, by first | omega | (dsimp only; omega) | trivial, by intro L hL; have hl := hL.1; rw [ed_cut, if_pos (by omega)]; have t1 := hb_18 L [] (0) (x1.toInt) (hp_18 L hL) (by omega) (by omega) (by omega) (by omega) (rp_0 (by omega)); have t2 := hb_29 L _ (x2.toInt + 1) (L.length) (hp_29 L hL) (by omega) (by omega) (by omega) (by omega) t1; rw [List.nil_append] at t2; exact ⟨hb_33 _ t2, by show _ = _ + (1 : Int); omega, by show _ = _ + (1 : Int) * _; omega⟩⟩
  · skip
    have k0 : (0 : Int32).toInt = 0 := rfl
    refine And.intro (fun c9 => absurd c9 (by decide)) (fun _ => ?_)
    have km1 : (-1 : Int32).toInt = -1 := rfl
    exact ⟨rfl, fun e9 => absurd e9 (by decide), rfl, (-1 : Int32), v, f, rfl, rfl, hv, hf, rfl, by first | omega | (dsimp only; omega) | trivial, by intro L hL; have hl := hL.1; rw [ed_cut, if_neg (by omega)]; exact ⟨hL, by show _ = _ + (0 : Int); omega, by show _ = _ + (0 : Int) * _; omega⟩⟩

set_option maxRecDepth 100000 in
set_option maxHeartbeats 2000000 in
theorem F_X11_shift (D : md_D h q) (v : Nat → Int32) (f : Nat → Nat → Int32) (hv : md_V v) (hf : md_F f) (x1 : Int32) (x2 : Int32) (x3 : Int32) (p0 : (v 4).toInt < 100000) : pm_Mt l g 189 4 0 0 [.ref h, .int x1, .int x2, .int x3] (md A0 g h q v f) (md_Qw A0 g h q f (fun r v2 f2 => ((v2 6).toInt = (v 6).toInt ∧ (v2 4).toInt ≤ (v 4).toInt + 1 ∧ (v 4).toInt ≤ (v2 4).toInt) ∧ (∀ L, rp (v 0) (f 0) (f 1) L → rp (v2 0) (f2 0) (f2 1) ((ed_shift L x1 x2 x3).getD L) ∧ (v2 4).toInt = (v 4).toInt + edn (ed_shift L x1 x2 x3) ∧ (v2 3).toInt = (v 3).toInt + edn (ed_shift L x1 x2 x3) * (0)))) := by
  refine mt_X11_shift rfl (fun J hC => ?_)
  have hv9 := hv
  unfold md_V at hv9
  have rg_x1 := pm_rng x1
  have rg_x2 := pm_rng x2
  have rg_x3 := pm_rng x3
  refine hC.1 0 0 _ _ rfl _ _ _ _ _ ?_
  refine And.intro (Exists.intro _ md_o) (Exists.intro _ (Exists.intro _ (Exists.intro _ (Exists.intro _ (And.intro (c_X11_isSpan D v f hv hf x1 x2 ) (And.intro rfl (fun r9 A9 h9 => ?_)))))))
  rcases h9 with ⟨y1, rfl, rfl, ⟨rfl, by1⟩ | ⟨rfl, by1⟩⟩
  · skip
    have k1 : (1 : Int32).toInt = 1 := rfl
    refine And.intro (fun c9 => absurd c9 (by decide)) (fun _ => ?_)
    have k0 : (0 : Int32).toInt = 0 := rfl
    intro m2 em_13
    try have e2 : m2.toInt = (x2).toInt - (x1).toInt := by rw [em_13]; exact pm_sub _ _ (by omega) (by omega)
    intro m3 em_15
    try have e3 : m3.toInt = (m2).toInt + (1) := by rw [em_15]; exact pm_addc _ _ (1) rfl (by omega) (by omega)
    refine Exists.intro _ (Exists.intro _ (Exists.intro _ (Exists.intro _ (And.intro (c_X11_isIn (md A0 g h q v f) x3 (0 : Int32) m3 ) (And.intro rfl (fun r9 A9 h9 => ?_))))))
    rcases h9 with ⟨y4, rfl, rfl, ⟨rfl, by4⟩ | ⟨rfl, by4⟩⟩
    · skip
      refine And.intro (fun _ => ?_) (fun c9 => absurd c9 (by decide))
      refine hC.1 2 24 _ _ rfl _ _ _ _ _ ?_
      refine And.intro (Exists.intro _ md_o) (Exists.intro _ (Exists.intro _ (Exists.intro _ (Exists.intro _ (And.intro (F_X11_begins D v f hv hf  ) (And.intro rfl (fun r9 A9 h9 => ?_)))))))
      obtain ⟨v6, f6, rfl, rfl, hv6, hf6, hx6, hg6_0, hg6_1, by5⟩ := h9
      have hw6 : f6 2 = f 2 := hx6.trans rfl
      have hr6_0 : f6 0 = f 0 := hg6_0.trans rfl
      have hr6_1 : f6 1 = f 1 := hg6_1.trans rfl
      have hu7_1 := hv6.2.1
      have hu7_2 := hv6.2.2.1
      have sq6_0 : (v6 0).toInt = (v 0).toInt := by5.1
      have sq6_3 : (v6 3).toInt = (v 3).toInt := by5.2.1
      have sq6_4 : (v6 4).toInt = (v 4).toInt := by5.2.2.1
      have sq6_6 : (v6 6).toInt = (v 6).toInt := by5.2.2.2.1
      have sp6 := by5.2.2.2.2
      clear by5
      have hp_31 : ∀ L, rp (v 0) (f 0) (f 1) L → rp (v6 0) (f6 0) (f6 1) L := fun L h => rp_fr h (by omega) hr6_0 hr6_1
      refine And.intro (Exists.intro _ md_o) (Exists.intro _ (Exists.intro _ (Exists.intro _ (Exists.intro _ (And.intro (F_X11_laysFrom D v6 f6 hv6 hf6 (0 : Int32) x1 (by omega) (by omega) (by omega) (by omega)) (And.intro rfl (fun r9 A9 h9 => ?_)))))))
      obtain ⟨v9, f9, rfl, rfl, hv9, hf9, hx9, hg9_0, hg9_1, by8⟩ := h9
      have hw9 : f9 2 = f 2 := hx9.trans hw6
      have hr9_0 : f9 0 = f 0 := hg9_0.trans hr6_0
      have hr9_1 : f9 1 = f 1 := hg9_1.trans hr6_1
      have hu10_2 := hv9.2.2.1
      have hb_31 := by8.2
      have sq9_0 : (v9 0).toInt = (v 0).toInt := by8.1.1.trans sq6_0
      have sq9_1 : (v9 1).toInt = (v6 1).toInt := by8.1.2.1
      have sq9_3 : (v9 3).toInt = (v 3).toInt := by8.1.2.2.1.trans sq6_3
      have sq9_4 : (v9 4).toInt = (v 4).toInt := by8.1.2.2.2.1.trans sq6_4
      have sq9_6 : (v9 6).toInt = (v 6).toInt := by8.1.2.2.2.2.1.trans sq6_6
      have sp9 := by8.1.2.2.2.2.2
      clear by8
      intro m11 em_37
      try have e11 : m11.toInt = (x1).toInt + (x3).toInt := by rw [em_37]; exact pm_add _ _ (by omega) (by omega)
      intro m12 em_40
      try have e12 : m12.toInt = (x2).toInt + (1) := by rw [em_40]; exact pm_addc _ _ (1) rfl (by omega) (by omega)
      have hp_41 : ∀ L, rp (v 0) (f 0) (f 1) L → rp (v9 0) (f9 0) (f9 1) L := fun L h => rp_fr h (by omega) hr9_0 hr9_1
      refine And.intro (Exists.intro _ md_o) (Exists.intro _ (Exists.intro _ (Exists.intro _ (Exists.intro _ (And.intro (F_X11_laysFrom D v9 f9 hv9 hf9 m11 m12 (by omega) (by omega) (by omega) (by omega)) (And.intro rfl (fun r9 A9 h9 => ?_)))))))
      obtain ⟨v14, f14, rfl, rfl, hv14, hf14, hx14, hg14_0, hg14_1, by13⟩ := h9
      have hw14 : f14 2 = f 2 := hx14.trans hw9
      have hr14_0 : f14 0 = f 0 := hg14_0.trans hr9_0
      have hr14_1 : f14 1 = f 1 := hg14_1.trans hr9_1
      have hu15_2 := hv14.2.2.1
      have hb_41 := by13.2
      have sq14_0 : (v14 0).toInt = (v 0).toInt := by13.1.1.trans sq9_0
      have sq14_1 : (v14 1).toInt = (v6 1).toInt := by13.1.2.1.trans sq9_1
      have sq14_3 : (v14 3).toInt = (v 3).toInt := by13.1.2.2.1.trans sq9_3
      have sq14_4 : (v14 4).toInt = (v 4).toInt := by13.1.2.2.2.1.trans sq9_4
      have sq14_6 : (v14 6).toInt = (v 6).toInt := by13.1.2.2.2.2.1.trans sq9_6
      have sp14 := by13.1.2.2.2.2.2
      clear by13
      intro m16 em_48
      try have e16 : m16.toInt = (x1).toInt + (x3).toInt := by rw [em_48]; exact pm_add _ _ (by omega) (by omega)
      have hp_49 : ∀ L, rp (v 0) (f 0) (f 1) L → rp (v14 0) (f14 0) (f14 1) L := fun L h => rp_fr h (by omega) hr14_0 hr14_1
      refine And.intro (Exists.intro _ md_o) (Exists.intro _ (Exists.intro _ (Exists.intro _ (Exists.intro _ (And.intro (F_X11_laysFrom D v14 f14 hv14 hf14 x1 m16 (by omega) (by omega) (by omega) (by omega)) (And.intro rfl (fun r9 A9 h9 => ?_)))))))
      obtain ⟨v18, f18, rfl, rfl, hv18, hf18, hx18, hg18_0, hg18_1, by17⟩ := h9
      have hw18 : f18 2 = f 2 := hx18.trans hw14
      have hr18_0 : f18 0 = f 0 := hg18_0.trans hr14_0
      have hr18_1 : f18 1 = f 1 := hg18_1.trans hr14_1
      have hu19_2 := hv18.2.2.1
      have hb_49 := by17.2
      have sq18_0 : (v18 0).toInt = (v 0).toInt := by17.1.1.trans sq14_0
      have sq18_1 : (v18 1).toInt = (v6 1).toInt := by17.1.2.1.trans sq14_1
      have sq18_3 : (v18 3).toInt = (v 3).toInt := by17.1.2.2.1.trans sq14_3
      have sq18_4 : (v18 4).toInt = (v 4).toInt := by17.1.2.2.2.1.trans sq14_4
      have sq18_6 : (v18 6).toInt = (v 6).toInt := by17.1.2.2.2.2.1.trans sq14_6
      have sp18 := by17.1.2.2.2.2.2
      clear by17
      intro m20 em_55
      try have e20 : m20.toInt = (x2).toInt + (1) := by rw [em_55]; exact pm_addc _ _ (1) rfl (by omega) (by omega)
      refine Exists.intro _ (And.intro md_o ?_)
      have hp_60 : ∀ L, rp (v 0) (f 0) (f 1) L → rp (v18 0) (f18 0) (f18 1) L := fun L h => rp_fr h (by omega) hr18_0 hr18_1
      refine And.intro (Exists.intro _ md_o) (Exists.intro _ (Exists.intro _ (Exists.intro _ (Exists.intro _ (And.intro (F_X11_laysFrom D v18 f18 hv18 hf18 m20 (v18 0) (by omega) (by omega) (by omega) (by omega)) (And.intro rfl (fun r9 A9 h9 => ?_)))))))
      obtain ⟨v22, f22, rfl, rfl, hv22, hf22, hx22, hg22_0, hg22_1, by21⟩ := h9
      have hw22 : f22 2 = f 2 := hx22.trans hw18
      have hr22_0 : f22 0 = f 0 := hg22_0.trans hr18_0
      have hr22_1 : f22 1 = f 1 := hg22_1.trans hr18_1
      have hu23_2 := hv22.2.2.1
      have hb_60 := by21.2
      have sq22_0 : (v22 0).toInt = (v 0).toInt := by21.1.1.trans sq18_0
      have sq22_1 : (v22 1).toInt = (v6 1).toInt := by21.1.2.1.trans sq18_1
      have sq22_3 : (v22 3).toInt = (v 3).toInt := by21.1.2.2.1.trans sq18_3
      have sq22_4 : (v22 4).toInt = (v 4).toInt := by21.1.2.2.2.1.trans sq18_4
      have sq22_6 : (v22 6).toInt = (v 6).toInt := by21.1.2.2.2.2.1.trans sq18_6
      have sp22 := by21.1.2.2.2.2.2
      clear by21
      refine And.intro (Exists.intro _ md_o) (Exists.intro _ (Exists.intro _ (Exists.intro _ (Exists.intro _ (And.intro (F_X11_ends D v22 f22 hv22 hf22  (by omega)) (And.intro rfl (fun r9 A9 h9 => ?_)))))))
      obtain ⟨y24, v25, f25, rfl, rfl, hv25, hf25, hx25, by24⟩ := h9
      have hw25 : f25 2 = f 2 := hx25.trans hw22
      have hu26_0 := hv25.1
      have hu26_4 := hv25.2.2.2.2.1
      have hb_64 := by24.2
      have sq25_1 : (v25 1).toInt = (v6 1).toInt := by24.1.1.trans sq22_1
      have sq25_2 : (v25 2).toInt = (v22 2).toInt := by24.1.2.1
      have sq25_3 : (v25 3).toInt = (v 3).toInt := by24.1.2.2.1.trans sq22_3
      have sq25_6 : (v25 6).toInt = (v 6).toInt := by24.1.2.2.2.1.trans sq22_6
      have sp25 := by24.1.2.2.2.2
      clear by24
      exact ⟨rfl, fun e9 => absurd e9 (by decide), rfl, y24, v25, f25, rfl, rfl, hv25, hf25, hw25, by first | omega | (dsimp only; omega) | trivial, by intro L hL; have hl := hL.1; rw [ed_shift, if_pos (by omega)]; have t1 := hb_31 L [] (0) (x1.toInt) (hp_31 L hL) (by omega) (by omega) (by omega) (by omega) (rp_0 (by omega)); have t2 := hb_41 L _ (x1.toInt + x3.toInt) (x2.toInt + 1) (hp_41 L hL) (by omega) (by omega) (by omega) (by omega) t1; have t3 := hb_49 L _ (x1.toInt) (x1.toInt + x3.toInt) (hp_49 L hL) (by omega) (by omega) (by omega) (by omega) t2; have t4 := hb_60 L _ (x2.toInt + 1) (L.length) (hp_60 L hL) (by omega) (by omega) (by omega) (by omega) t3; rw [List.nil_append] at t4; exact ⟨hb_64 _ t4, by show _ = _ + (1 : Int); omega, by show _ = _ + (1 : Int) * _; omega⟩⟩
    · skip
      refine And.intro (fun c9 => absurd c9 (by decide)) (fun _ => ?_)
      refine hC.1 1 22 _ _ rfl _ _ _ _ _ ?_
      have km1 : (-1 : Int32).toInt = -1 := rfl
      exact ⟨rfl, fun e9 => absurd e9 (by decide), rfl, (-1 : Int32), v, f, rfl, rfl, hv, hf, rfl, by first | omega | (dsimp only; omega) | trivial, by intro L hL; have hl := hL.1; rw [ed_shift, if_neg (by omega)]; exact ⟨hL, by show _ = _ + (0 : Int); omega, by show _ = _ + (0 : Int) * _; omega⟩⟩
  · skip
    have k0 : (0 : Int32).toInt = 0 := rfl
    refine And.intro (fun _ => ?_) (fun c9 => absurd c9 (by decide))
    refine hC.1 1 22 _ _ rfl _ _ _ _ _ ?_
    have km1 : (-1 : Int32).toInt = -1 := rfl
    exact ⟨rfl, fun e9 => absurd e9 (by decide), rfl, (-1 : Int32), v, f, rfl, rfl, hv, hf, rfl, by first | omega | (dsimp only; omega) | trivial, by intro L hL; have hl := hL.1; rw [ed_shift, if_neg (by omega)]; exact ⟨hL, by show _ = _ + (0 : Int); omega, by show _ = _ + (0 : Int) * _; omega⟩⟩

end
end
