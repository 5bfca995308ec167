section
variable {l : Launch} {g : pm_G}
set_option maxRecDepth 100000 in
set_option maxHeartbeats 2000000 in
theorem ci_X7_init {A : pm_H} {ws : List (Nat × va_E)} {a : Nat} (nd : (List.map Prod.fst ((a, pm_ob 7 (pm_df 7)) :: ws)).Nodup) : pm_Mt l g 2 1 3 480 [.ref a] (al A ((a, pm_ob 7 (pm_df 7)) :: ws)) (fun r A9 => r = none ∧ ∃ (a1 : Nat) (a4 : Nat) (a7 : Nat), A9 = al A ((a7, pm_ia g 160 (fun _ => 0)) :: (a4, pm_ia g 160 (fun _ => 0)) :: (a1, pm_ia g 160 (fun _ => 0)) :: (a, pm_ob 7 [.ref a1, .ref a4, .ref a7, .int 0, .int 0]) :: ws) ∧ (List.map Prod.fst ((a7, pm_ia g 160 (fun _ => 0)) :: (a4, pm_ia g 160 (fun _ => 0)) :: (a1, pm_ia g 160 (fun _ => 0)) :: (a, pm_ob 7 [.ref a1, .ref a4, .ref a7, .int 0, .int 0]) :: ws)).Nodup ∧ A a1 = none ∧ A a4 = none ∧ A a7 = none) := by
  refine mt_X7_init rfl (fun J hC => ?_)
  refine hC.1 0 0 _ _ rfl _ _ _ _ _ ?_
  refine And.intro rfl ?_
  refine And.intro rfl (And.intro rfl (fun a1 h1 => ?_))
  have g2 := al_none h1
  have nd2 : (List.map Prod.fst ((a1, pm_ia g 160 (fun _ => 0)) :: ((a, pm_ob 7 (pm_df 7)) :: ws))).Nodup := al_nd nd h1
  rw [show pm_up (al A ((a, pm_ob 7 (pm_df 7)) :: ws)) a1 (pm_ia g 160 (fun _ => 0)) = al A ((a1, pm_ia g 160 (fun _ => 0)) :: ((a, pm_ob 7 (pm_df 7)) :: ws)) from rfl]
  refine Exists.intro _ (And.intro (al_get (k := 1) nd2 rfl) (And.intro rfl ?_))
  rw [show pm_up (al A ((a1, pm_ia g 160 (fun _ => 0)) :: (a, pm_ob 7 (pm_df 7)) :: ws)) a (pm_ob 7 ((pm_df 7).set 0 (.ref a1))) = al A ((a1, pm_ia g 160 (fun _ => 0)) :: (a, pm_ob 7 [.ref a1, .null, .null, .int 0, .int 0]) :: ws) from al_set (k := 1) nd2 rfl rfl]
  have nd3 : (List.map Prod.fst ((a1, pm_ia g 160 (fun _ => 0)) :: (a, pm_ob 7 [.ref a1, .null, .null, .int 0, .int 0]) :: ws)).Nodup := nd2
  refine And.intro rfl (And.intro rfl (fun a4 h4 => ?_))
  have g5 := al_none h4
  have nd5 : (List.map Prod.fst ((a4, pm_ia g 160 (fun _ => 0)) :: ((a1, pm_ia g 160 (fun _ => 0)) :: (a, pm_ob 7 [.ref a1, .null, .null, .int 0, .int 0]) :: ws))).Nodup := al_nd nd3 h4
  rw [show pm_up (al A ((a1, pm_ia g 160 (fun _ => 0)) :: (a, pm_ob 7 [.ref a1, .null, .null, .int 0, .int 0]) :: ws)) a4 (pm_ia g 160 (fun _ => 0)) = al A ((a4, pm_ia g 160 (fun _ => 0)) :: ((a1, pm_ia g 160 (fun _ => 0)) :: (a, pm_ob 7 [.ref a1, .null, .null, .int 0, .int 0]) :: ws)) from rfl]
  refine Exists.intro _ (And.intro (al_get (k := 2) nd5 rfl) (And.intro rfl ?_))
  rw [show pm_up (al A ((a4, pm_ia g 160 (fun _ => 0)) :: (a1, pm_ia g 160 (fun _ => 0)) :: (a, pm_ob 7 [.ref a1, .null, .null, .int 0, .int 0]) :: ws)) a (pm_ob 7 (([.ref a1, .null, .null, .int 0, .int 0] : List Value).set 1 (.ref a4))) = al A ((a4, pm_ia g 160 (fun _ => 0)) :: (a1, pm_ia g 160 (fun _ => 0)) :: (a, pm_ob 7 [.ref a1, .ref a4, .null, .int 0, .int 0]) :: ws) from al_set (k := 2) nd5 rfl rfl]
  have nd6 : (List.map Prod.fst ((a4, pm_ia g 160 (fun _ => 0)) :: (a1, pm_ia g 160 (fun _ => 0)) :: (a, pm_ob 7 [.ref a1, .ref a4, .null, .int 0, .int 0]) :: ws)).Nodup := nd5
  refine And.intro rfl (And.intro rfl (fun a7 h7 => ?_))
  have g8 := al_none h7
  have nd8 : (List.map Prod.fst ((a7, pm_ia g 160 (fun _ => 0)) :: ((a4, pm_ia g 160 (fun _ => 0)) :: (a1, pm_ia g 160 (fun _ => 0)) :: (a, pm_ob 7 [.ref a1, .ref a4, .null, .int 0, .int 0]) :: ws))).Nodup := al_nd nd6 h7
  rw [show pm_up (al A ((a4, pm_ia g 160 (fun _ => 0)) :: (a1, pm_ia g 160 (fun _ => 0)) :: (a, pm_ob 7 [.ref a1, .ref a4, .null, .int 0, .int 0]) :: ws)) a7 (pm_ia g 160 (fun _ => 0)) = al A ((a7, pm_ia g 160 (fun _ => 0)) :: ((a4, pm_ia g 160 (fun _ => 0)) :: (a1, pm_ia g 160 (fun _ => 0)) :: (a, pm_ob 7 [.ref a1, .ref a4, .null, .int 0, .int 0]) :: ws)) from rfl]
  refine Exists.intro _ (And.intro (al_get (k := 3) nd8 rfl) (And.intro rfl ?_))
  rw [show pm_up (al A ((a7, pm_ia g 160 (fun _ => 0)) :: (a4, pm_ia g 160 (fun _ => 0)) :: (a1, pm_ia g 160 (fun _ => 0)) :: (a, pm_ob 7 [.ref a1, .ref a4, .null, .int 0, .int 0]) :: ws)) a (pm_ob 7 (([.ref a1, .ref a4, .null, .int 0, .int 0] : List Value).set 2 (.ref a7))) = al A ((a7, pm_ia g 160 (fun _ => 0)) :: (a4, pm_ia g 160 (fun _ => 0)) :: (a1, pm_ia g 160 (fun _ => 0)) :: (a, pm_ob 7 [.ref a1, .ref a4, .ref a7, .int 0, .int 0]) :: ws) from al_set (k := 3) nd8 rfl rfl]
  have nd9 : (List.map Prod.fst ((a7, pm_ia g 160 (fun _ => 0)) :: (a4, pm_ia g 160 (fun _ => 0)) :: (a1, pm_ia g 160 (fun _ => 0)) :: (a, pm_ob 7 [.ref a1, .ref a4, .ref a7, .int 0, .int 0]) :: ws)).Nodup := nd8
  exact ⟨rfl, rfl, rfl, a1, a4, a7, rfl, nd9, g2.2, g5.2, g8.2⟩

set_option maxRecDepth 100000 in
set_option maxHeartbeats 2000000 in
theorem ci_X9_init {A : pm_H} {ws : List (Nat × va_E)} {a : Nat} (nd : (List.map Prod.fst ((a, pm_ob 9 (pm_df 9)) :: ws)).Nodup) : pm_Mt l g 1 2 7 710 [.ref a] (al A ((a, pm_ob 9 (pm_df 9)) :: ws)) (fun r A9 => r = none ∧ ∃ (a1 : Nat) (a4 : Nat) (a7 : Nat) (a10 : Nat) (a1_12 : Nat) (a4_12 : Nat) (a7_12 : Nat), A9 = al A ((a7_12, pm_ia g 160 (fun _ => 0)) :: (a4_12, pm_ia g 160 (fun _ => 0)) :: (a1_12, pm_ia g 160 (fun _ => 0)) :: (a10, pm_ob 7 [.ref a1_12, .ref a4_12, .ref a7_12, .int 0, .int 0]) :: (a7, pm_ia g 24 (fun _ => 0)) :: (a4, pm_ia g 160 (fun _ => 0)) :: (a1, pm_ra g 41 (va_up (fun _ => none) (0 : Int32).toInt.toNat (some a10))) :: (a, pm_ob 9 [.ref a1, .ref a4, .ref a7, .ref a10, .ref a10, .int 0, .int 0, .int 0]) :: ws) ∧ (List.map Prod.fst ((a7_12, pm_ia g 160 (fun _ => 0)) :: (a4_12, pm_ia g 160 (fun _ => 0)) :: (a1_12, pm_ia g 160 (fun _ => 0)) :: (a10, pm_ob 7 [.ref a1_12, .ref a4_12, .ref a7_12, .int 0, .int 0]) :: (a7, pm_ia g 24 (fun _ => 0)) :: (a4, pm_ia g 160 (fun _ => 0)) :: (a1, pm_ra g 41 (va_up (fun _ => none) (0 : Int32).toInt.toNat (some a10))) :: (a, pm_ob 9 [.ref a1, .ref a4, .ref a7, .ref a10, .ref a10, .int 0, .int 0, .int 0]) :: ws)).Nodup ∧ A a1 = none ∧ A a4 = none ∧ A a7 = none ∧ A a10 = none ∧ A a1_12 = none ∧ A a4_12 = none ∧ A a7_12 = none) := by
  refine mt_X9_init rfl (fun J hC => ?_)
  refine hC.1 0 0 _ _ rfl _ _ _ _ _ ?_
  refine And.intro rfl ?_
  refine And.intro rfl (And.intro rfl (fun a1 h1 => ?_))
  have g2 := al_none h1
  have nd2 : (List.map Prod.fst ((a1, pm_ra g 41 (fun _ => none)) :: ((a, pm_ob 9 (pm_df 9)) :: ws))).Nodup := al_nd nd h1
  rw [show pm_up (al A ((a, pm_ob 9 (pm_df 9)) :: ws)) a1 (pm_ra g 41 (fun _ => none)) = al A ((a1, pm_ra g 41 (fun _ => none)) :: ((a, pm_ob 9 (pm_df 9)) :: ws)) from rfl]
  refine Exists.intro _ (And.intro (al_get (k := 1) nd2 rfl) (And.intro rfl ?_))
  rw [show pm_up (al A ((a1, pm_ra g 41 (fun _ => none)) :: (a, pm_ob 9 (pm_df 9)) :: ws)) a (pm_ob 9 ((pm_df 9).set 0 (.ref a1))) = al A ((a1, pm_ra g 41 (fun _ => none)) :: (a, pm_ob 9 [.ref a1, .null, .null, .null, .null, .int 0, .int 0, .int 0]) :: ws) from al_set (k := 1) nd2 rfl rfl]
  have nd3 : (List.map Prod.fst ((a1, pm_ra g 41 (fun _ => none)) :: (a, pm_ob 9 [.ref a1, .null, .null, .null, .null, .int 0, .int 0, .int 0]) :: ws)).Nodup := nd2
  refine And.intro rfl (And.intro rfl (fun a4 h4 => ?_))
  have g5 := al_none h4
  have nd5 : (List.map Prod.fst ((a4, pm_ia g 160 (fun _ => 0)) :: ((a1, pm_ra g 41 (fun _ => none)) :: (a, pm_ob 9 [.ref a1, .null, .null, .null, .null, .int 0, .int 0, .int 0]) :: ws))).Nodup := al_nd nd3 h4
  rw [show pm_up (al A ((a1, pm_ra g 41 (fun _ => none)) :: (a, pm_ob 9 [.ref a1, .null, .null, .null, .null, .int 0, .int 0, .int 0]) :: ws)) a4 (pm_ia g 160 (fun _ => 0)) = al A ((a4, pm_ia g 160 (fun _ => 0)) :: ((a1, pm_ra g 41 (fun _ => none)) :: (a, pm_ob 9 [.ref a1, .null, .null, .null, .null, .int 0, .int 0, .int 0]) :: ws)) from rfl]
  refine Exists.intro _ (And.intro (al_get (k := 2) nd5 rfl) (And.intro rfl ?_))
  rw [show pm_up (al A ((a4, pm_ia g 160 (fun _ => 0)) :: (a1, pm_ra g 41 (fun _ => none)) :: (a, pm_ob 9 [.ref a1, .null, .null, .null, .null, .int 0, .int 0, .int 0]) :: ws)) a (pm_ob 9 (([.ref a1, .null, .null, .null, .null, .int 0, .int 0, .int 0] : List Value).set 1 (.ref a4))) = al A ((a4, pm_ia g 160 (fun _ => 0)) :: (a1, pm_ra g 41 (fun _ => none)) :: (a, pm_ob 9 [.ref a1, .ref a4, .null, .null, .null, .int 0, .int 0, .int 0]) :: ws) from al_set (k := 2) nd5 rfl rfl]
  have nd6 : (List.map Prod.fst ((a4, pm_ia g 160 (fun _ => 0)) :: (a1, pm_ra g 41 (fun _ => none)) :: (a, pm_ob 9 [.ref a1, .ref a4, .null, .null, .null, .int 0, .int 0, .int 0]) :: ws)).Nodup := nd5
  refine And.intro rfl (And.intro rfl (fun a7 h7 => ?_))
  have g8 := al_none h7
  have nd8 : (List.map Prod.fst ((a7, pm_ia g 24 (fun _ => 0)) :: ((a4, pm_ia g 160 (fun _ => 0)) :: (a1, pm_ra g 41 (fun _ => none)) :: (a, pm_ob 9 [.ref a1, .ref a4, .null, .null, .null, .int 0, .int 0, .int 0]) :: ws))).Nodup := al_nd nd6 h7
  rw [show pm_up (al A ((a4, pm_ia g 160 (fun _ => 0)) :: (a1, pm_ra g 41 (fun _ => none)) :: (a, pm_ob 9 [.ref a1, .ref a4, .null, .null, .null, .int 0, .int 0, .int 0]) :: ws)) a7 (pm_ia g 24 (fun _ => 0)) = al A ((a7, pm_ia g 24 (fun _ => 0)) :: ((a4, pm_ia g 160 (fun _ => 0)) :: (a1, pm_ra g 41 (fun _ => none)) :: (a, pm_ob 9 [.ref a1, .ref a4, .null, .null, .null, .int 0, .int 0, .int 0]) :: ws)) from rfl]
  refine Exists.intro _ (And.intro (al_get (k := 3) nd8 rfl) (And.intro rfl ?_))
  rw [show pm_up (al A ((a7, pm_ia g 24 (fun _ => 0)) :: (a4, pm_ia g 160 (fun _ => 0)) :: (a1, pm_ra g 41 (fun _ => none)) :: (a, pm_ob 9 [.ref a1, .ref a4, .null, .null, .null, .int 0, .int 0, .int 0]) :: ws)) a (pm_ob 9 (([.ref a1, .ref a4, .null, .null, .null, .int 0, .int 0, .int 0] : List Value).set 2 (.ref a7))) = al A ((a7, pm_ia g 24 (fun _ => 0)) :: (a4, pm_ia g 160 (fun _ => 0)) :: (a1, pm_ra g 41 (fun _ => none)) :: (a, pm_ob 9 [.ref a1, .ref a4, .ref a7, .null, .null, .int 0, .int 0, .int 0]) :: ws) from al_set (k := 3) nd8 rfl rfl]
  have nd9 : (List.map Prod.fst ((a7, pm_ia g 24 (fun _ => 0)) :: (a4, pm_ia g 160 (fun _ => 0)) :: (a1, pm_ra g 41 (fun _ => none)) :: (a, pm_ob 9 [.ref a1, .ref a4, .ref a7, .null, .null, .int 0, .int 0, .int 0]) :: ws)).Nodup := nd8
  refine And.intro rfl (fun a10 h10 => ?_)
  have g11 := al_none h10
  have nd11 : (List.map Prod.fst ((a10, pm_ob 7 (pm_df 7)) :: ((a7, pm_ia g 24 (fun _ => 0)) :: (a4, pm_ia g 160 (fun _ => 0)) :: (a1, pm_ra g 41 (fun _ => none)) :: (a, pm_ob 9 [.ref a1, .ref a4, .ref a7, .null, .null, .int 0, .int 0, .int 0]) :: ws))).Nodup := al_nd nd9 h10
  rw [show pm_up (al A ((a7, pm_ia g 24 (fun _ => 0)) :: (a4, pm_ia g 160 (fun _ => 0)) :: (a1, pm_ra g 41 (fun _ => none)) :: (a, pm_ob 9 [.ref a1, .ref a4, .ref a7, .null, .null, .int 0, .int 0, .int 0]) :: ws)) a10 (pm_ob 7 (pm_df 7)) = al A ((a10, pm_ob 7 (pm_df 7)) :: ((a7, pm_ia g 24 (fun _ => 0)) :: (a4, pm_ia g 160 (fun _ => 0)) :: (a1, pm_ra g 41 (fun _ => none)) :: (a, pm_ob 9 [.ref a1, .ref a4, .ref a7, .null, .null, .int 0, .int 0, .int 0]) :: ws)) from rfl]
  refine Exists.intro _ (Exists.intro _ (Exists.intro _ (Exists.intro _ (And.intro (ci_X7_init nd11) (And.intro rfl (fun r9 A9 h9 => ?_))))))
  obtain ⟨rfl, a1_12, a4_12, a7_12, rfl, nd12, f12_0, f12_1, f12_2⟩ := h9
  refine Exists.intro _ (And.intro (al_get (k := 7) nd12 rfl) (And.intro rfl ?_))
  rw [show pm_up (al A ((a7_12, pm_ia g 160 (fun _ => 0)) :: (a4_12, pm_ia g 160 (fun _ => 0)) :: (a1_12, pm_ia g 160 (fun _ => 0)) :: (a10, pm_ob 7 [.ref a1_12, .ref a4_12, .ref a7_12, .int 0, .int 0]) :: (a7, pm_ia g 24 (fun _ => 0)) :: (a4, pm_ia g 160 (fun _ => 0)) :: (a1, pm_ra g 41 (fun _ => none)) :: (a, pm_ob 9 [.ref a1, .ref a4, .ref a7, .null, .null, .int 0, .int 0, .int 0]) :: ws)) a (pm_ob 9 (([.ref a1, .ref a4, .ref a7, .null, .null, .int 0, .int 0, .int 0] : List Value).set 4 (.ref a10))) = al A ((a7_12, pm_ia g 160 (fun _ => 0)) :: (a4_12, pm_ia g 160 (fun _ => 0)) :: (a1_12, pm_ia g 160 (fun _ => 0)) :: (a10, pm_ob 7 [.ref a1_12, .ref a4_12, .ref a7_12, .int 0, .int 0]) :: (a7, pm_ia g 24 (fun _ => 0)) :: (a4, pm_ia g 160 (fun _ => 0)) :: (a1, pm_ra g 41 (fun _ => none)) :: (a, pm_ob 9 [.ref a1, .ref a4, .ref a7, .null, .ref a10, .int 0, .int 0, .int 0]) :: ws) from al_set (k := 7) nd12 rfl rfl]
  have nd13 : (List.map Prod.fst ((a7_12, pm_ia g 160 (fun _ => 0)) :: (a4_12, pm_ia g 160 (fun _ => 0)) :: (a1_12, pm_ia g 160 (fun _ => 0)) :: (a10, pm_ob 7 [.ref a1_12, .ref a4_12, .ref a7_12, .int 0, .int 0]) :: (a7, pm_ia g 24 (fun _ => 0)) :: (a4, pm_ia g 160 (fun _ => 0)) :: (a1, pm_ra g 41 (fun _ => none)) :: (a, pm_ob 9 [.ref a1, .ref a4, .ref a7, .null, .ref a10, .int 0, .int 0, .int 0]) :: ws)).Nodup := nd12
  refine Exists.intro _ (And.intro (al_get (k := 7) nd13 rfl) ?_)
  refine Exists.intro _ (And.intro (al_get (k := 7) nd13 rfl) (And.intro rfl ?_))
  rw [show pm_up (al A ((a7_12, pm_ia g 160 (fun _ => 0)) :: (a4_12, pm_ia g 160 (fun _ => 0)) :: (a1_12, pm_ia g 160 (fun _ => 0)) :: (a10, pm_ob 7 [.ref a1_12, .ref a4_12, .ref a7_12, .int 0, .int 0]) :: (a7, pm_ia g 24 (fun _ => 0)) :: (a4, pm_ia g 160 (fun _ => 0)) :: (a1, pm_ra g 41 (fun _ => none)) :: (a, pm_ob 9 [.ref a1, .ref a4, .ref a7, .null, .ref a10, .int 0, .int 0, .int 0]) :: ws)) a (pm_ob 9 (([.ref a1, .ref a4, .ref a7, .null, .ref a10, .int 0, .int 0, .int 0] : List Value).set 3 (.ref a10))) = al A ((a7_12, pm_ia g 160 (fun _ => 0)) :: (a4_12, pm_ia g 160 (fun _ => 0)) :: (a1_12, pm_ia g 160 (fun _ => 0)) :: (a10, pm_ob 7 [.ref a1_12, .ref a4_12, .ref a7_12, .int 0, .int 0]) :: (a7, pm_ia g 24 (fun _ => 0)) :: (a4, pm_ia g 160 (fun _ => 0)) :: (a1, pm_ra g 41 (fun _ => none)) :: (a, pm_ob 9 [.ref a1, .ref a4, .ref a7, .ref a10, .ref a10, .int 0, .int 0, .int 0]) :: ws) from al_set (k := 7) nd13 rfl rfl]
  have nd14 : (List.map Prod.fst ((a7_12, pm_ia g 160 (fun _ => 0)) :: (a4_12, pm_ia g 160 (fun _ => 0)) :: (a1_12, pm_ia g 160 (fun _ => 0)) :: (a10, pm_ob 7 [.ref a1_12, .ref a4_12, .ref a7_12, .int 0, .int 0]) :: (a7, pm_ia g 24 (fun _ => 0)) :: (a4, pm_ia g 160 (fun _ => 0)) :: (a1, pm_ra g 41 (fun _ => none)) :: (a, pm_ob 9 [.ref a1, .ref a4, .ref a7, .ref a10, .ref a10, .int 0, .int 0, .int 0]) :: ws)).Nodup := nd13
  refine Exists.intro _ (And.intro (al_get (k := 7) nd14 rfl) ?_)
  refine Exists.intro _ (And.intro (al_get (k := 7) nd14 rfl) ?_)
  refine Exists.intro _ (Exists.intro _ (Exists.intro _ (And.intro (al_get (k := 6) nd14 rfl) (And.intro (al_get (k := 3) nd14 rfl) (And.intro (by decide) ?_)))))
  rw [show pm_up (al A ((a7_12, pm_ia g 160 (fun _ => 0)) :: (a4_12, pm_ia g 160 (fun _ => 0)) :: (a1_12, pm_ia g 160 (fun _ => 0)) :: (a10, pm_ob 7 [.ref a1_12, .ref a4_12, .ref a7_12, .int 0, .int 0]) :: (a7, pm_ia g 24 (fun _ => 0)) :: (a4, pm_ia g 160 (fun _ => 0)) :: (a1, pm_ra g 41 (fun _ => none)) :: (a, pm_ob 9 [.ref a1, .ref a4, .ref a7, .ref a10, .ref a10, .int 0, .int 0, .int 0]) :: ws)) a1 (pm_ra g 41 (va_up (fun _ => none) (0 : Int32).toInt.toNat (some a10))) = al A ((a7_12, pm_ia g 160 (fun _ => 0)) :: (a4_12, pm_ia g 160 (fun _ => 0)) :: (a1_12, pm_ia g 160 (fun _ => 0)) :: (a10, pm_ob 7 [.ref a1_12, .ref a4_12, .ref a7_12, .int 0, .int 0]) :: (a7, pm_ia g 24 (fun _ => 0)) :: (a4, pm_ia g 160 (fun _ => 0)) :: (a1, pm_ra g 41 (va_up (fun _ => none) (0 : Int32).toInt.toNat (some a10))) :: (a, pm_ob 9 [.ref a1, .ref a4, .ref a7, .ref a10, .ref a10, .int 0, .int 0, .int 0]) :: ws) from al_set (k := 6) nd14 rfl rfl]
  have nd15 : (List.map Prod.fst ((a7_12, pm_ia g 160 (fun _ => 0)) :: (a4_12, pm_ia g 160 (fun _ => 0)) :: (a1_12, pm_ia g 160 (fun _ => 0)) :: (a10, pm_ob 7 [.ref a1_12, .ref a4_12, .ref a7_12, .int 0, .int 0]) :: (a7, pm_ia g 24 (fun _ => 0)) :: (a4, pm_ia g 160 (fun _ => 0)) :: (a1, pm_ra g 41 (va_up (fun _ => none) (0 : Int32).toInt.toNat (some a10))) :: (a, pm_ob 9 [.ref a1, .ref a4, .ref a7, .ref a10, .ref a10, .int 0, .int 0, .int 0]) :: ws)).Nodup := nd14
  exact ⟨rfl, rfl, rfl, a1, a4, a7, a10, a1_12, a4_12, a7_12, rfl, nd15, g2.2, g5.2, g8.2, g11.2, f12_0, f12_1, f12_2⟩

set_option maxRecDepth 100000 in
set_option maxHeartbeats 2000000 in
theorem ci_X2_init {A : pm_H} {ws : List (Nat × va_E)} {a : Nat} (nd : (List.map Prod.fst ((a, pm_ob 2 (pm_df 2)) :: ws)).Nodup) : pm_Mt l g 3 1 2 48 [.ref a] (al A ((a, pm_ob 2 (pm_df 2)) :: ws)) (fun r A9 => r = none ∧ ∃ (a1 : Nat) (a4 : Nat), A9 = al A ((a4, pm_ia g 24 (fun j => if j < 24 then (1 : Int32) else 0)) :: (a1, pm_ia g 24 (fun _ => 0)) :: (a, pm_ob 2 [.ref a1, .ref a4, .int 0, .int 0, .int 0, .int 0]) :: ws) ∧ (List.map Prod.fst ((a4, pm_ia g 24 (fun j => if j < 24 then (1 : Int32) else 0)) :: (a1, pm_ia g 24 (fun _ => 0)) :: (a, pm_ob 2 [.ref a1, .ref a4, .int 0, .int 0, .int 0, .int 0]) :: ws)).Nodup ∧ A a1 = none ∧ A a4 = none) := by
  refine mt_X2_init rfl (fun J hC => ?_)
  refine hC.1 0 0 _ _ rfl _ _ _ _ _ ?_
  refine And.intro rfl ?_
  refine And.intro rfl (And.intro rfl (fun a1 h1 => ?_))
  have g2 := al_none h1
  have nd2 : (List.map Prod.fst ((a1, pm_ia g 24 (fun _ => 0)) :: ((a, pm_ob 2 (pm_df 2)) :: ws))).Nodup := al_nd nd h1
  rw [show pm_up (al A ((a, pm_ob 2 (pm_df 2)) :: ws)) a1 (pm_ia g 24 (fun _ => 0)) = al A ((a1, pm_ia g 24 (fun _ => 0)) :: ((a, pm_ob 2 (pm_df 2)) :: ws)) from rfl]
  refine Exists.intro _ (And.intro (al_get (k := 1) nd2 rfl) (And.intro rfl ?_))
  rw [show pm_up (al A ((a1, pm_ia g 24 (fun _ => 0)) :: (a, pm_ob 2 (pm_df 2)) :: ws)) a (pm_ob 2 ((pm_df 2).set 0 (.ref a1))) = al A ((a1, pm_ia g 24 (fun _ => 0)) :: (a, pm_ob 2 [.ref a1, .null, .int 0, .int 0, .int 0, .int 0]) :: ws) from al_set (k := 1) nd2 rfl rfl]
  have nd3 : (List.map Prod.fst ((a1, pm_ia g 24 (fun _ => 0)) :: (a, pm_ob 2 [.ref a1, .null, .int 0, .int 0, .int 0, .int 0]) :: ws)).Nodup := nd2
  refine And.intro rfl (And.intro rfl (fun a4 h4 => ?_))
  have g5 := al_none h4
  have nd5 : (List.map Prod.fst ((a4, pm_ia g 24 (fun _ => 0)) :: ((a1, pm_ia g 24 (fun _ => 0)) :: (a, pm_ob 2 [.ref a1, .null, .int 0, .int 0, .int 0, .int 0]) :: ws))).Nodup := al_nd nd3 h4
  rw [show pm_up (al A ((a1, pm_ia g 24 (fun _ => 0)) :: (a, pm_ob 2 [.ref a1, .null, .int 0, .int 0, .int 0, .int 0]) :: ws)) a4 (pm_ia g 24 (fun _ => 0)) = al A ((a4, pm_ia g 24 (fun _ => 0)) :: ((a1, pm_ia g 24 (fun _ => 0)) :: (a, pm_ob 2 [.ref a1, .null, .int 0, .int 0, .int 0, .int 0]) :: ws)) from rfl]
  refine Exists.intro _ (And.intro (al_get (k := 2) nd5 rfl) (And.intro rfl ?_))
  rw [show pm_up (al A ((a4, pm_ia g 24 (fun _ => 0)) :: (a1, pm_ia g 24 (fun _ => 0)) :: (a, pm_ob 2 [.ref a1, .null, .int 0, .int 0, .int 0, .int 0]) :: ws)) a (pm_ob 2 (([.ref a1, .null, .int 0, .int 0, .int 0, .int 0] : List Value).set 1 (.ref a4))) = al A ((a4, pm_ia g 24 (fun _ => 0)) :: (a1, pm_ia g 24 (fun _ => 0)) :: (a, pm_ob 2 [.ref a1, .ref a4, .int 0, .int 0, .int 0, .int 0]) :: ws) from al_set (k := 2) nd5 rfl rfl]
  have nd6 : (List.map Prod.fst ((a4, pm_ia g 24 (fun _ => 0)) :: (a1, pm_ia g 24 (fun _ => 0)) :: (a, pm_ob 2 [.ref a1, .ref a4, .int 0, .int 0, .int 0, .int 0]) :: ws)).Nodup := nd5
  refine Exists.intro _ (And.intro (al_get (k := 2) nd6 rfl) ?_)
  refine Exists.intro _ (Exists.intro _ (Exists.intro _ (Exists.intro _ (And.intro (c_fill (al_get (k := 0) nd6 rfl) (by decide) (1)) (And.intro rfl (fun r9 A9 h9 => ?_))))))
  obtain ⟨rfl, rfl⟩ := h9
  rw [al_set (L := ((a4, pm_ia g 24 (fun _ => 0)) :: (a1, pm_ia g 24 (fun _ => 0)) :: (a, pm_ob 2 [.ref a1, .ref a4, .int 0, .int 0, .int 0, .int 0]) :: ws)) (L' := ((a4, pm_ia g 24 (fun j => if j < 24 then (1 : Int32) else 0)) :: (a1, pm_ia g 24 (fun _ => 0)) :: (a, pm_ob 2 [.ref a1, .ref a4, .int 0, .int 0, .int 0, .int 0]) :: ws)) (k := 0) nd6 rfl rfl]
  have nd7 : (List.map Prod.fst ((a4, pm_ia g 24 (fun j => if j < 24 then (1 : Int32) else 0)) :: (a1, pm_ia g 24 (fun _ => 0)) :: (a, pm_ob 2 [.ref a1, .ref a4, .int 0, .int 0, .int 0, .int 0]) :: ws)).Nodup := nd6
  exact ⟨rfl, rfl, rfl, a1, a4, rfl, nd7, g2.2, g5.2⟩

set_option maxRecDepth 100000 in
set_option maxHeartbeats 2000000 in
theorem ci_X0_init {A : pm_H} {ws : List (Nat × va_E)} {a : Nat} (nd : (List.map Prod.fst ((a, pm_ob 0 (pm_df 0)) :: ws)).Nodup) : pm_Mt l g 5 1 2 184 [.ref a] (al A ((a, pm_ob 0 (pm_df 0)) :: ws)) (fun r A9 => r = none ∧ ∃ (a1 : Nat) (a4 : Nat), A9 = al A ((a4, pm_ia g 160 (fun _ => 0)) :: (a1, pm_ia g 24 (fun _ => 0)) :: (a, pm_ob 0 [.ref a1, .ref a4, .int 0]) :: ws) ∧ (List.map Prod.fst ((a4, pm_ia g 160 (fun _ => 0)) :: (a1, pm_ia g 24 (fun _ => 0)) :: (a, pm_ob 0 [.ref a1, .ref a4, .int 0]) :: ws)).Nodup ∧ A a1 = none ∧ A a4 = none) := by
  refine mt_X0_init rfl (fun J hC => ?_)
  refine hC.1 0 0 _ _ rfl _ _ _ _ _ ?_
  refine And.intro rfl ?_
  refine And.intro rfl (And.intro rfl (fun a1 h1 => ?_))
  have g2 := al_none h1
  have nd2 : (List.map Prod.fst ((a1, pm_ia g 24 (fun _ => 0)) :: ((a, pm_ob 0 (pm_df 0)) :: ws))).Nodup := al_nd nd h1
  rw [show pm_up (al A ((a, pm_ob 0 (pm_df 0)) :: ws)) a1 (pm_ia g 24 (fun _ => 0)) = al A ((a1, pm_ia g 24 (fun _ => 0)) :: ((a, pm_ob 0 (pm_df 0)) :: ws)) from rfl]
  refine Exists.intro _ (And.intro (al_get (k := 1) nd2 rfl) (And.intro rfl ?_))
  rw [show pm_up (al A ((a1, pm_ia g 24 (fun _ => 0)) :: (a, pm_ob 0 (pm_df 0)) :: ws)) a (pm_ob 0 ((pm_df 0).set 0 (.ref a1))) = al A ((a1, pm_ia g 24 (fun _ => 0)) :: (a, pm_ob 0 [.ref a1, .null, .int 0]) :: ws) from al_set (k := 1) nd2 rfl rfl]
  have nd3 : (List.map Prod.fst ((a1, pm_ia g 24 (fun _ => 0)) :: (a, pm_ob 0 [.ref a1, .null, .int 0]) :: ws)).Nodup := nd2
  refine And.intro rfl (And.intro rfl (fun a4 h4 => ?_))
  have g5 := al_none h4
  have nd5 : (List.map Prod.fst ((a4, pm_ia g 160 (fun _ => 0)) :: ((a1, pm_ia g 24 (fun _ => 0)) :: (a, pm_ob 0 [.ref a1, .null, .int 0]) :: ws))).Nodup := al_nd nd3 h4
  rw [show pm_up (al A ((a1, pm_ia g 24 (fun _ => 0)) :: (a, pm_ob 0 [.ref a1, .null, .int 0]) :: ws)) a4 (pm_ia g 160 (fun _ => 0)) = al A ((a4, pm_ia g 160 (fun _ => 0)) :: ((a1, pm_ia g 24 (fun _ => 0)) :: (a, pm_ob 0 [.ref a1, .null, .int 0]) :: ws)) from rfl]
  refine Exists.intro _ (And.intro (al_get (k := 2) nd5 rfl) (And.intro rfl ?_))
  rw [show pm_up (al A ((a4, pm_ia g 160 (fun _ => 0)) :: (a1, pm_ia g 24 (fun _ => 0)) :: (a, pm_ob 0 [.ref a1, .null, .int 0]) :: ws)) a (pm_ob 0 (([.ref a1, .null, .int 0] : List Value).set 1 (.ref a4))) = al A ((a4, pm_ia g 160 (fun _ => 0)) :: (a1, pm_ia g 24 (fun _ => 0)) :: (a, pm_ob 0 [.ref a1, .ref a4, .int 0]) :: ws) from al_set (k := 2) nd5 rfl rfl]
  have nd6 : (List.map Prod.fst ((a4, pm_ia g 160 (fun _ => 0)) :: (a1, pm_ia g 24 (fun _ => 0)) :: (a, pm_ob 0 [.ref a1, .ref a4, .int 0]) :: ws)).Nodup := nd5
  exact ⟨rfl, rfl, rfl, a1, a4, rfl, nd6, g2.2, g5.2⟩

set_option maxRecDepth 100000 in
set_option maxHeartbeats 2000000 in
theorem ci_X1_init {A : pm_H} {ws : List (Nat × va_E)} {a : Nat} (nd : (List.map Prod.fst ((a, pm_ob 1 (pm_df 1)) :: ws)).Nodup) : pm_Mt l g 6 1 3 208 [.ref a] (al A ((a, pm_ob 1 (pm_df 1)) :: ws)) (fun r A9 => r = none ∧ ∃ (a1 : Nat) (a4 : Nat) (a7 : Nat), A9 = al A ((a7, pm_ia g 24 (fun _ => 0)) :: (a4, pm_ia g 24 (fun _ => 0)) :: (a1, pm_ia g 160 (fun _ => 0)) :: (a, pm_ob 1 [.ref a1, .ref a4, .ref a7, .int 0, .int 0]) :: ws) ∧ (List.map Prod.fst ((a7, pm_ia g 24 (fun _ => 0)) :: (a4, pm_ia g 24 (fun _ => 0)) :: (a1, pm_ia g 160 (fun _ => 0)) :: (a, pm_ob 1 [.ref a1, .ref a4, .ref a7, .int 0, .int 0]) :: ws)).Nodup ∧ A a1 = none ∧ A a4 = none ∧ A a7 = none) := by
  refine mt_X1_init rfl (fun J hC => ?_)
  refine hC.1 0 0 _ _ rfl _ _ _ _ _ ?_
  refine And.intro rfl ?_
  refine And.intro rfl (And.intro rfl (fun a1 h1 => ?_))
  have g2 := al_none h1
  have nd2 : (List.map Prod.fst ((a1, pm_ia g 160 (fun _ => 0)) :: ((a, pm_ob 1 (pm_df 1)) :: ws))).Nodup := al_nd nd h1
  rw [show pm_up (al A ((a, pm_ob 1 (pm_df 1)) :: ws)) a1 (pm_ia g 160 (fun _ => 0)) = al A ((a1, pm_ia g 160 (fun _ => 0)) :: ((a, pm_ob 1 (pm_df 1)) :: ws)) from rfl]
  refine Exists.intro _ (And.intro (al_get (k := 1) nd2 rfl) (And.intro rfl ?_))
  rw [show pm_up (al A ((a1, pm_ia g 160 (fun _ => 0)) :: (a, pm_ob 1 (pm_df 1)) :: ws)) a (pm_ob 1 ((pm_df 1).set 0 (.ref a1))) = al A ((a1, pm_ia g 160 (fun _ => 0)) :: (a, pm_ob 1 [.ref a1, .null, .null, .int 0, .int 0]) :: ws) from al_set (k := 1) nd2 rfl rfl]
  have nd3 : (List.map Prod.fst ((a1, pm_ia g 160 (fun _ => 0)) :: (a, pm_ob 1 [.ref a1, .null, .null, .int 0, .int 0]) :: ws)).Nodup := nd2
  refine And.intro rfl (And.intro rfl (fun a4 h4 => ?_))
  have g5 := al_none h4
  have nd5 : (List.map Prod.fst ((a4, pm_ia g 24 (fun _ => 0)) :: ((a1, pm_ia g 160 (fun _ => 0)) :: (a, pm_ob 1 [.ref a1, .null, .null, .int 0, .int 0]) :: ws))).Nodup := al_nd nd3 h4
  rw [show pm_up (al A ((a1, pm_ia g 160 (fun _ => 0)) :: (a, pm_ob 1 [.ref a1, .null, .null, .int 0, .int 0]) :: ws)) a4 (pm_ia g 24 (fun _ => 0)) = al A ((a4, pm_ia g 24 (fun _ => 0)) :: ((a1, pm_ia g 160 (fun _ => 0)) :: (a, pm_ob 1 [.ref a1, .null, .null, .int 0, .int 0]) :: ws)) from rfl]
  refine Exists.intro _ (And.intro (al_get (k := 2) nd5 rfl) (And.intro rfl ?_))
  rw [show pm_up (al A ((a4, pm_ia g 24 (fun _ => 0)) :: (a1, pm_ia g 160 (fun _ => 0)) :: (a, pm_ob 1 [.ref a1, .null, .null, .int 0, .int 0]) :: ws)) a (pm_ob 1 (([.ref a1, .null, .null, .int 0, .int 0] : List Value).set 1 (.ref a4))) = al A ((a4, pm_ia g 24 (fun _ => 0)) :: (a1, pm_ia g 160 (fun _ => 0)) :: (a, pm_ob 1 [.ref a1, .ref a4, .null, .int 0, .int 0]) :: ws) from al_set (k := 2) nd5 rfl rfl]
  have nd6 : (List.map Prod.fst ((a4, pm_ia g 24 (fun _ => 0)) :: (a1, pm_ia g 160 (fun _ => 0)) :: (a, pm_ob 1 [.ref a1, .ref a4, .null, .int 0, .int 0]) :: ws)).Nodup := nd5
  refine And.intro rfl (And.intro rfl (fun a7 h7 => ?_))
  have g8 := al_none h7
  have nd8 : (List.map Prod.fst ((a7, pm_ia g 24 (fun _ => 0)) :: ((a4, pm_ia g 24 (fun _ => 0)) :: (a1, pm_ia g 160 (fun _ => 0)) :: (a, pm_ob 1 [.ref a1, .ref a4, .null, .int 0, .int 0]) :: ws))).Nodup := al_nd nd6 h7
  rw [show pm_up (al A ((a4, pm_ia g 24 (fun _ => 0)) :: (a1, pm_ia g 160 (fun _ => 0)) :: (a, pm_ob 1 [.ref a1, .ref a4, .null, .int 0, .int 0]) :: ws)) a7 (pm_ia g 24 (fun _ => 0)) = al A ((a7, pm_ia g 24 (fun _ => 0)) :: ((a4, pm_ia g 24 (fun _ => 0)) :: (a1, pm_ia g 160 (fun _ => 0)) :: (a, pm_ob 1 [.ref a1, .ref a4, .null, .int 0, .int 0]) :: ws)) from rfl]
  refine Exists.intro _ (And.intro (al_get (k := 3) nd8 rfl) (And.intro rfl ?_))
  rw [show pm_up (al A ((a7, pm_ia g 24 (fun _ => 0)) :: (a4, pm_ia g 24 (fun _ => 0)) :: (a1, pm_ia g 160 (fun _ => 0)) :: (a, pm_ob 1 [.ref a1, .ref a4, .null, .int 0, .int 0]) :: ws)) a (pm_ob 1 (([.ref a1, .ref a4, .null, .int 0, .int 0] : List Value).set 2 (.ref a7))) = al A ((a7, pm_ia g 24 (fun _ => 0)) :: (a4, pm_ia g 24 (fun _ => 0)) :: (a1, pm_ia g 160 (fun _ => 0)) :: (a, pm_ob 1 [.ref a1, .ref a4, .ref a7, .int 0, .int 0]) :: ws) from al_set (k := 3) nd8 rfl rfl]
  have nd9 : (List.map Prod.fst ((a7, pm_ia g 24 (fun _ => 0)) :: (a4, pm_ia g 24 (fun _ => 0)) :: (a1, pm_ia g 160 (fun _ => 0)) :: (a, pm_ob 1 [.ref a1, .ref a4, .ref a7, .int 0, .int 0]) :: ws)).Nodup := nd8
  exact ⟨rfl, rfl, rfl, a1, a4, a7, rfl, nd9, g2.2, g5.2, g8.2⟩

set_option maxRecDepth 100000 in
set_option maxHeartbeats 2000000 in
theorem ci_X6_init {A : pm_H} {ws : List (Nat × va_E)} {a : Nat} (nd : (List.map Prod.fst ((a, pm_ob 6 (pm_df 6)) :: ws)).Nodup) : pm_Mt l g 7 1 1 24 [.ref a] (al A ((a, pm_ob 6 (pm_df 6)) :: ws)) (fun r A9 => r = none ∧ ∃ (a1 : Nat), A9 = al A ((a1, pm_ia g 24 (fun _ => 0)) :: (a, pm_ob 6 [.ref a1, .int 0, .int 0, .int 0, .int 0]) :: ws) ∧ (List.map Prod.fst ((a1, pm_ia g 24 (fun _ => 0)) :: (a, pm_ob 6 [.ref a1, .int 0, .int 0, .int 0, .int 0]) :: ws)).Nodup ∧ A a1 = none) := by
  refine mt_X6_init rfl (fun J hC => ?_)
  refine hC.1 0 0 _ _ rfl _ _ _ _ _ ?_
  refine And.intro rfl ?_
  refine And.intro rfl (And.intro rfl (fun a1 h1 => ?_))
  have g2 := al_none h1
  have nd2 : (List.map Prod.fst ((a1, pm_ia g 24 (fun _ => 0)) :: ((a, pm_ob 6 (pm_df 6)) :: ws))).Nodup := al_nd nd h1
  rw [show pm_up (al A ((a, pm_ob 6 (pm_df 6)) :: ws)) a1 (pm_ia g 24 (fun _ => 0)) = al A ((a1, pm_ia g 24 (fun _ => 0)) :: ((a, pm_ob 6 (pm_df 6)) :: ws)) from rfl]
  refine Exists.intro _ (And.intro (al_get (k := 1) nd2 rfl) (And.intro rfl ?_))
  rw [show pm_up (al A ((a1, pm_ia g 24 (fun _ => 0)) :: (a, pm_ob 6 (pm_df 6)) :: ws)) a (pm_ob 6 ((pm_df 6).set 0 (.ref a1))) = al A ((a1, pm_ia g 24 (fun _ => 0)) :: (a, pm_ob 6 [.ref a1, .int 0, .int 0, .int 0, .int 0]) :: ws) from al_set (k := 1) nd2 rfl rfl]
  have nd3 : (List.map Prod.fst ((a1, pm_ia g 24 (fun _ => 0)) :: (a, pm_ob 6 [.ref a1, .int 0, .int 0, .int 0, .int 0]) :: ws)).Nodup := nd2
  exact ⟨rfl, rfl, rfl, a1, rfl, nd3, g2.2⟩

set_option maxRecDepth 100000 in
set_option maxHeartbeats 2000000 in
theorem ci_X8_init {A : pm_H} {ws : List (Nat × va_E)} {a : Nat} (nd : (List.map Prod.fst ((a, pm_ob 8 (pm_df 8)) :: ws)).Nodup) : pm_Mt l g 8 1 3 208 [.ref a] (al A ((a, pm_ob 8 (pm_df 8)) :: ws)) (fun r A9 => r = none ∧ ∃ (a1 : Nat) (a4 : Nat) (a7 : Nat), A9 = al A ((a7, pm_ia g 24 (fun _ => 0)) :: (a4, pm_ia g 24 (fun _ => 0)) :: (a1, pm_ia g 160 (fun _ => 0)) :: (a, pm_ob 8 [.ref a1, .ref a4, .ref a7, .int 0, .int 0]) :: ws) ∧ (List.map Prod.fst ((a7, pm_ia g 24 (fun _ => 0)) :: (a4, pm_ia g 24 (fun _ => 0)) :: (a1, pm_ia g 160 (fun _ => 0)) :: (a, pm_ob 8 [.ref a1, .ref a4, .ref a7, .int 0, .int 0]) :: ws)).Nodup ∧ A a1 = none ∧ A a4 = none ∧ A a7 = none) := by
  refine mt_X8_init rfl (fun J hC => ?_)
  refine hC.1 0 0 _ _ rfl _ _ _ _ _ ?_
  refine And.intro rfl ?_
  refine And.intro rfl (And.intro rfl (fun a1 h1 => ?_))
  have g2 := al_none h1
  have nd2 : (List.map Prod.fst ((a1, pm_ia g 160 (fun _ => 0)) :: ((a, pm_ob 8 (pm_df 8)) :: ws))).Nodup := al_nd nd h1
  rw [show pm_up (al A ((a, pm_ob 8 (pm_df 8)) :: ws)) a1 (pm_ia g 160 (fun _ => 0)) = al A ((a1, pm_ia g 160 (fun _ => 0)) :: ((a, pm_ob 8 (pm_df 8)) :: ws)) from rfl]
  refine Exists.intro _ (And.intro (al_get (k := 1) nd2 rfl) (And.intro rfl ?_))
  rw [show pm_up (al A ((a1, pm_ia g 160 (fun _ => 0)) :: (a, pm_ob 8 (pm_df 8)) :: ws)) a (pm_ob 8 ((pm_df 8).set 0 (.ref a1))) = al A ((a1, pm_ia g 160 (fun _ => 0)) :: (a, pm_ob 8 [.ref a1, .null, .null, .int 0, .int 0]) :: ws) from al_set (k := 1) nd2 rfl rfl]
  have nd3 : (List.map Prod.fst ((a1, pm_ia g 160 (fun _ => 0)) :: (a, pm_ob 8 [.ref a1, .null, .null, .int 0, .int 0]) :: ws)).Nodup := nd2
  refine And.intro rfl (And.intro rfl (fun a4 h4 => ?_))
  have g5 := al_none h4
  have nd5 : (List.map Prod.fst ((a4, pm_ia g 24 (fun _ => 0)) :: ((a1, pm_ia g 160 (fun _ => 0)) :: (a, pm_ob 8 [.ref a1, .null, .null, .int 0, .int 0]) :: ws))).Nodup := al_nd nd3 h4
  rw [show pm_up (al A ((a1, pm_ia g 160 (fun _ => 0)) :: (a, pm_ob 8 [.ref a1, .null, .null, .int 0, .int 0]) :: ws)) a4 (pm_ia g 24 (fun _ => 0)) = al A ((a4, pm_ia g 24 (fun _ => 0)) :: ((a1, pm_ia g 160 (fun _ => 0)) :: (a, pm_ob 8 [.ref a1, .null, .null, .int 0, .int 0]) :: ws)) from rfl]
  refine Exists.intro _ (And.intro (al_get (k := 2) nd5 rfl) (And.intro rfl ?_))
  rw [show pm_up (al A ((a4, pm_ia g 24 (fun _ => 0)) :: (a1, pm_ia g 160 (fun _ => 0)) :: (a, pm_ob 8 [.ref a1, .null, .null, .int 0, .int 0]) :: ws)) a (pm_ob 8 (([.ref a1, .null, .null, .int 0, .int 0] : List Value).set 1 (.ref a4))) = al A ((a4, pm_ia g 24 (fun _ => 0)) :: (a1, pm_ia g 160 (fun _ => 0)) :: (a, pm_ob 8 [.ref a1, .ref a4, .null, .int 0, .int 0]) :: ws) from al_set (k := 2) nd5 rfl rfl]
  have nd6 : (List.map Prod.fst ((a4, pm_ia g 24 (fun _ => 0)) :: (a1, pm_ia g 160 (fun _ => 0)) :: (a, pm_ob 8 [.ref a1, .ref a4, .null, .int 0, .int 0]) :: ws)).Nodup := nd5
  refine And.intro rfl (And.intro rfl (fun a7 h7 => ?_))
  have g8 := al_none h7
  have nd8 : (List.map Prod.fst ((a7, pm_ia g 24 (fun _ => 0)) :: ((a4, pm_ia g 24 (fun _ => 0)) :: (a1, pm_ia g 160 (fun _ => 0)) :: (a, pm_ob 8 [.ref a1, .ref a4, .null, .int 0, .int 0]) :: ws))).Nodup := al_nd nd6 h7
  rw [show pm_up (al A ((a4, pm_ia g 24 (fun _ => 0)) :: (a1, pm_ia g 160 (fun _ => 0)) :: (a, pm_ob 8 [.ref a1, .ref a4, .null, .int 0, .int 0]) :: ws)) a7 (pm_ia g 24 (fun _ => 0)) = al A ((a7, pm_ia g 24 (fun _ => 0)) :: ((a4, pm_ia g 24 (fun _ => 0)) :: (a1, pm_ia g 160 (fun _ => 0)) :: (a, pm_ob 8 [.ref a1, .ref a4, .null, .int 0, .int 0]) :: ws)) from rfl]
  refine Exists.intro _ (And.intro (al_get (k := 3) nd8 rfl) (And.intro rfl ?_))
  rw [show pm_up (al A ((a7, pm_ia g 24 (fun _ => 0)) :: (a4, pm_ia g 24 (fun _ => 0)) :: (a1, pm_ia g 160 (fun _ => 0)) :: (a, pm_ob 8 [.ref a1, .ref a4, .null, .int 0, .int 0]) :: ws)) a (pm_ob 8 (([.ref a1, .ref a4, .null, .int 0, .int 0] : List Value).set 2 (.ref a7))) = al A ((a7, pm_ia g 24 (fun _ => 0)) :: (a4, pm_ia g 24 (fun _ => 0)) :: (a1, pm_ia g 160 (fun _ => 0)) :: (a, pm_ob 8 [.ref a1, .ref a4, .ref a7, .int 0, .int 0]) :: ws) from al_set (k := 3) nd8 rfl rfl]
  have nd9 : (List.map Prod.fst ((a7, pm_ia g 24 (fun _ => 0)) :: (a4, pm_ia g 24 (fun _ => 0)) :: (a1, pm_ia g 160 (fun _ => 0)) :: (a, pm_ob 8 [.ref a1, .ref a4, .ref a7, .int 0, .int 0]) :: ws)).Nodup := nd8
  exact ⟨rfl, rfl, rfl, a1, a4, a7, rfl, nd9, g2.2, g5.2, g8.2⟩

set_option maxRecDepth 100000 in
set_option maxHeartbeats 2000000 in
theorem ci_X4_init {A : pm_H} {ws : List (Nat × va_E)} {a : Nat} (nd : (List.map Prod.fst ((a, pm_ob 4 (pm_df 4)) :: ws)).Nodup) : pm_Mt l g 9 1 1 160 [.ref a] (al A ((a, pm_ob 4 (pm_df 4)) :: ws)) (fun r A9 => r = none ∧ ∃ (a1 : Nat), A9 = al A ((a1, pm_ia g 160 (fun _ => 0)) :: (a, pm_ob 4 [.ref a1, .int 0, .int 0]) :: ws) ∧ (List.map Prod.fst ((a1, pm_ia g 160 (fun _ => 0)) :: (a, pm_ob 4 [.ref a1, .int 0, .int 0]) :: ws)).Nodup ∧ A a1 = none) := by
  refine mt_X4_init rfl (fun J hC => ?_)
  refine hC.1 0 0 _ _ rfl _ _ _ _ _ ?_
  refine And.intro rfl ?_
  refine And.intro rfl (And.intro rfl (fun a1 h1 => ?_))
  have g2 := al_none h1
  have nd2 : (List.map Prod.fst ((a1, pm_ia g 160 (fun _ => 0)) :: ((a, pm_ob 4 (pm_df 4)) :: ws))).Nodup := al_nd nd h1
  rw [show pm_up (al A ((a, pm_ob 4 (pm_df 4)) :: ws)) a1 (pm_ia g 160 (fun _ => 0)) = al A ((a1, pm_ia g 160 (fun _ => 0)) :: ((a, pm_ob 4 (pm_df 4)) :: ws)) from rfl]
  refine Exists.intro _ (And.intro (al_get (k := 1) nd2 rfl) (And.intro rfl ?_))
  rw [show pm_up (al A ((a1, pm_ia g 160 (fun _ => 0)) :: (a, pm_ob 4 (pm_df 4)) :: ws)) a (pm_ob 4 ((pm_df 4).set 0 (.ref a1))) = al A ((a1, pm_ia g 160 (fun _ => 0)) :: (a, pm_ob 4 [.ref a1, .int 0, .int 0]) :: ws) from al_set (k := 1) nd2 rfl rfl]
  have nd3 : (List.map Prod.fst ((a1, pm_ia g 160 (fun _ => 0)) :: (a, pm_ob 4 [.ref a1, .int 0, .int 0]) :: ws)).Nodup := nd2
  exact ⟨rfl, rfl, rfl, a1, rfl, nd3, g2.2⟩

set_option maxRecDepth 100000 in
set_option maxHeartbeats 2000000 in
theorem ci_X3_init {A : pm_H} {ws : List (Nat × va_E)} {a : Nat} (nd : (List.map Prod.fst ((a, pm_ob 3 (pm_df 3)) :: ws)).Nodup) : pm_Mt l g 10 1 10 1458 [.ref a] (al A ((a, pm_ob 3 (pm_df 3)) :: ws)) (fun r A9 => r = none ∧ ∃ (a1 : Nat) (r1 : Nat → Nat), A9 = al A (((r1 8), pm_ia g 161 (fun _ => 0)) :: ((r1 7), pm_ia g 161 (fun _ => 0)) :: ((r1 6), pm_ia g 161 (fun _ => 0)) :: ((r1 5), pm_ia g 161 (fun _ => 0)) :: ((r1 4), pm_ia g 161 (fun _ => 0)) :: ((r1 3), pm_ia g 161 (fun _ => 0)) :: ((r1 2), pm_ia g 161 (fun _ => 0)) :: ((r1 1), pm_ia g 161 (fun _ => 0)) :: ((r1 0), pm_ia g 161 (fun _ => 0)) :: (a1, pm_ma g 9 (fun j => if j < 9 then some (r1 j) else none)) :: (a, pm_ob 3 [.ref a1]) :: ws) ∧ (List.map Prod.fst (((r1 8), pm_ia g 161 (fun _ => 0)) :: ((r1 7), pm_ia g 161 (fun _ => 0)) :: ((r1 6), pm_ia g 161 (fun _ => 0)) :: ((r1 5), pm_ia g 161 (fun _ => 0)) :: ((r1 4), pm_ia g 161 (fun _ => 0)) :: ((r1 3), pm_ia g 161 (fun _ => 0)) :: ((r1 2), pm_ia g 161 (fun _ => 0)) :: ((r1 1), pm_ia g 161 (fun _ => 0)) :: ((r1 0), pm_ia g 161 (fun _ => 0)) :: (a1, pm_ma g 9 (fun j => if j < 9 then some (r1 j) else none)) :: (a, pm_ob 3 [.ref a1]) :: ws)).Nodup ∧ A a1 = none ∧ A (r1 0) = none ∧ A (r1 1) = none ∧ A (r1 2) = none ∧ A (r1 3) = none ∧ A (r1 4) = none ∧ A (r1 5) = none ∧ A (r1 6) = none ∧ A (r1 7) = none ∧ A (r1 8) = none) := by
  refine mt_X3_init rfl (fun J hC => ?_)
  refine hC.1 0 0 _ _ rfl _ _ _ _ _ ?_
  refine And.intro rfl ?_
  refine And.intro rfl (And.intro rfl (And.intro rfl (fun a1 r1 h1 i1 j1 k1 => ?_)))
  have g1 := al_none h1
  have nd1 : (List.map Prod.fst (((r1 8), pm_ia g 161 (fun _ => 0)) :: ((r1 7), pm_ia g 161 (fun _ => 0)) :: ((r1 6), pm_ia g 161 (fun _ => 0)) :: ((r1 5), pm_ia g 161 (fun _ => 0)) :: ((r1 4), pm_ia g 161 (fun _ => 0)) :: ((r1 3), pm_ia g 161 (fun _ => 0)) :: ((r1 2), pm_ia g 161 (fun _ => 0)) :: ((r1 1), pm_ia g 161 (fun _ => 0)) :: ((r1 0), pm_ia g 161 (fun _ => 0)) :: (a1, pm_ma g 9 (fun j => if j < 9 then some (r1 j) else none)) :: (a, pm_ob 3 (pm_df 3)) :: ws)).Nodup := al_nd9 nd h1 i1 j1 k1
  rw [show pm_upm g (al A ((a, pm_ob 3 (pm_df 3)) :: ws)) a1 r1 9 161 = al A (((r1 8), pm_ia g 161 (fun _ => 0)) :: ((r1 7), pm_ia g 161 (fun _ => 0)) :: ((r1 6), pm_ia g 161 (fun _ => 0)) :: ((r1 5), pm_ia g 161 (fun _ => 0)) :: ((r1 4), pm_ia g 161 (fun _ => 0)) :: ((r1 3), pm_ia g 161 (fun _ => 0)) :: ((r1 2), pm_ia g 161 (fun _ => 0)) :: ((r1 1), pm_ia g 161 (fun _ => 0)) :: ((r1 0), pm_ia g 161 (fun _ => 0)) :: (a1, pm_ma g 9 (fun j => if j < 9 then some (r1 j) else none)) :: (a, pm_ob 3 (pm_df 3)) :: ws) from al_upm j1 k1]
  refine Exists.intro _ (And.intro (al_get (k := 10) nd1 rfl) (And.intro rfl ?_))
  rw [show pm_up (al A (((r1 8), pm_ia g 161 (fun _ => 0)) :: ((r1 7), pm_ia g 161 (fun _ => 0)) :: ((r1 6), pm_ia g 161 (fun _ => 0)) :: ((r1 5), pm_ia g 161 (fun _ => 0)) :: ((r1 4), pm_ia g 161 (fun _ => 0)) :: ((r1 3), pm_ia g 161 (fun _ => 0)) :: ((r1 2), pm_ia g 161 (fun _ => 0)) :: ((r1 1), pm_ia g 161 (fun _ => 0)) :: ((r1 0), pm_ia g 161 (fun _ => 0)) :: (a1, pm_ma g 9 (fun j => if j < 9 then some (r1 j) else none)) :: (a, pm_ob 3 (pm_df 3)) :: ws)) a (pm_ob 3 ((pm_df 3).set 0 (.ref a1))) = al A (((r1 8), pm_ia g 161 (fun _ => 0)) :: ((r1 7), pm_ia g 161 (fun _ => 0)) :: ((r1 6), pm_ia g 161 (fun _ => 0)) :: ((r1 5), pm_ia g 161 (fun _ => 0)) :: ((r1 4), pm_ia g 161 (fun _ => 0)) :: ((r1 3), pm_ia g 161 (fun _ => 0)) :: ((r1 2), pm_ia g 161 (fun _ => 0)) :: ((r1 1), pm_ia g 161 (fun _ => 0)) :: ((r1 0), pm_ia g 161 (fun _ => 0)) :: (a1, pm_ma g 9 (fun j => if j < 9 then some (r1 j) else none)) :: (a, pm_ob 3 [.ref a1]) :: ws) from al_set (k := 10) nd1 rfl rfl]
  have nd2 : (List.map Prod.fst (((r1 8), pm_ia g 161 (fun _ => 0)) :: ((r1 7), pm_ia g 161 (fun _ => 0)) :: ((r1 6), pm_ia g 161 (fun _ => 0)) :: ((r1 5), pm_ia g 161 (fun _ => 0)) :: ((r1 4), pm_ia g 161 (fun _ => 0)) :: ((r1 3), pm_ia g 161 (fun _ => 0)) :: ((r1 2), pm_ia g 161 (fun _ => 0)) :: ((r1 1), pm_ia g 161 (fun _ => 0)) :: ((r1 0), pm_ia g 161 (fun _ => 0)) :: (a1, pm_ma g 9 (fun j => if j < 9 then some (r1 j) else none)) :: (a, pm_ob 3 [.ref a1]) :: ws)).Nodup := nd1
  exact ⟨rfl, rfl, rfl, a1, r1, rfl, nd2, g1.2, (al_none (i1 0 (by decide))).2, (al_none (i1 1 (by decide))).2, (al_none (i1 2 (by decide))).2, (al_none (i1 3 (by decide))).2, (al_none (i1 4 (by decide))).2, (al_none (i1 5 (by decide))).2, (al_none (i1 6 (by decide))).2, (al_none (i1 7 (by decide))).2, (al_none (i1 8 (by decide))).2⟩

set_option maxRecDepth 100000 in
set_option maxHeartbeats 2000000 in
theorem ci_X5_init {A : pm_H} {ws : List (Nat × va_E)} {a : Nat} (nd : (List.map Prod.fst ((a, pm_ob 5 (pm_df 5)) :: ws)).Nodup) : pm_Mt l g 11 1 5 150 [.ref a] (al A ((a, pm_ob 5 (pm_df 5)) :: ws)) (fun r A9 => r = none ∧ ∃ (a1 : Nat) (a4 : Nat) (a7 : Nat) (a10 : Nat) (a13 : Nat), A9 = al A ((a13, pm_ia g 30 (fun _ => 0)) :: (a10, pm_ia g 30 (fun _ => 0)) :: (a7, pm_ia g 30 (fun _ => 0)) :: (a4, pm_ia g 30 (fun _ => 0)) :: (a1, pm_ia g 30 (fun _ => 0)) :: (a, pm_ob 5 [.ref a1, .ref a4, .ref a7, .ref a10, .ref a13, .int 0]) :: ws) ∧ (List.map Prod.fst ((a13, pm_ia g 30 (fun _ => 0)) :: (a10, pm_ia g 30 (fun _ => 0)) :: (a7, pm_ia g 30 (fun _ => 0)) :: (a4, pm_ia g 30 (fun _ => 0)) :: (a1, pm_ia g 30 (fun _ => 0)) :: (a, pm_ob 5 [.ref a1, .ref a4, .ref a7, .ref a10, .ref a13, .int 0]) :: ws)).Nodup ∧ A a1 = none ∧ A a4 = none ∧ A a7 = none ∧ A a10 = none ∧ A a13 = none) := by
  refine mt_X5_init rfl (fun J hC => ?_)
  refine hC.1 0 0 _ _ rfl _ _ _ _ _ ?_
  refine And.intro rfl ?_
  refine And.intro rfl (And.intro rfl (fun a1 h1 => ?_))
  have g2 := al_none h1
  have nd2 : (List.map Prod.fst ((a1, pm_ia g 30 (fun _ => 0)) :: ((a, pm_ob 5 (pm_df 5)) :: ws))).Nodup := al_nd nd h1
  rw [show pm_up (al A ((a, pm_ob 5 (pm_df 5)) :: ws)) a1 (pm_ia g 30 (fun _ => 0)) = al A ((a1, pm_ia g 30 (fun _ => 0)) :: ((a, pm_ob 5 (pm_df 5)) :: ws)) from rfl]
  refine Exists.intro _ (And.intro (al_get (k := 1) nd2 rfl) (And.intro rfl ?_))
  rw [show pm_up (al A ((a1, pm_ia g 30 (fun _ => 0)) :: (a, pm_ob 5 (pm_df 5)) :: ws)) a (pm_ob 5 ((pm_df 5).set 0 (.ref a1))) = al A ((a1, pm_ia g 30 (fun _ => 0)) :: (a, pm_ob 5 [.ref a1, .null, .null, .null, .null, .int 0]) :: ws) from al_set (k := 1) nd2 rfl rfl]
  have nd3 : (List.map Prod.fst ((a1, pm_ia g 30 (fun _ => 0)) :: (a, pm_ob 5 [.ref a1, .null, .null, .null, .null, .int 0]) :: ws)).Nodup := nd2
  refine And.intro rfl (And.intro rfl (fun a4 h4 => ?_))
  have g5 := al_none h4
  have nd5 : (List.map Prod.fst ((a4, pm_ia g 30 (fun _ => 0)) :: ((a1, pm_ia g 30 (fun _ => 0)) :: (a, pm_ob 5 [.ref a1, .null, .null, .null, .null, .int 0]) :: ws))).Nodup := al_nd nd3 h4
  rw [show pm_up (al A ((a1, pm_ia g 30 (fun _ => 0)) :: (a, pm_ob 5 [.ref a1, .null, .null, .null, .null, .int 0]) :: ws)) a4 (pm_ia g 30 (fun _ => 0)) = al A ((a4, pm_ia g 30 (fun _ => 0)) :: ((a1, pm_ia g 30 (fun _ => 0)) :: (a, pm_ob 5 [.ref a1, .null, .null, .null, .null, .int 0]) :: ws)) from rfl]
  refine Exists.intro _ (And.intro (al_get (k := 2) nd5 rfl) (And.intro rfl ?_))
  rw [show pm_up (al A ((a4, pm_ia g 30 (fun _ => 0)) :: (a1, pm_ia g 30 (fun _ => 0)) :: (a, pm_ob 5 [.ref a1, .null, .null, .null, .null, .int 0]) :: ws)) a (pm_ob 5 (([.ref a1, .null, .null, .null, .null, .int 0] : List Value).set 1 (.ref a4))) = al A ((a4, pm_ia g 30 (fun _ => 0)) :: (a1, pm_ia g 30 (fun _ => 0)) :: (a, pm_ob 5 [.ref a1, .ref a4, .null, .null, .null, .int 0]) :: ws) from al_set (k := 2) nd5 rfl rfl]
  have nd6 : (List.map Prod.fst ((a4, pm_ia g 30 (fun _ => 0)) :: (a1, pm_ia g 30 (fun _ => 0)) :: (a, pm_ob 5 [.ref a1, .ref a4, .null, .null, .null, .int 0]) :: ws)).Nodup := nd5
  refine And.intro rfl (And.intro rfl (fun a7 h7 => ?_))
  have g8 := al_none h7
  have nd8 : (List.map Prod.fst ((a7, pm_ia g 30 (fun _ => 0)) :: ((a4, pm_ia g 30 (fun _ => 0)) :: (a1, pm_ia g 30 (fun _ => 0)) :: (a, pm_ob 5 [.ref a1, .ref a4, .null, .null, .null, .int 0]) :: ws))).Nodup := al_nd nd6 h7
  rw [show pm_up (al A ((a4, pm_ia g 30 (fun _ => 0)) :: (a1, pm_ia g 30 (fun _ => 0)) :: (a, pm_ob 5 [.ref a1, .ref a4, .null, .null, .null, .int 0]) :: ws)) a7 (pm_ia g 30 (fun _ => 0)) = al A ((a7, pm_ia g 30 (fun _ => 0)) :: ((a4, pm_ia g 30 (fun _ => 0)) :: (a1, pm_ia g 30 (fun _ => 0)) :: (a, pm_ob 5 [.ref a1, .ref a4, .null, .null, .null, .int 0]) :: ws)) from rfl]
  refine Exists.intro _ (And.intro (al_get (k := 3) nd8 rfl) (And.intro rfl ?_))
  rw [show pm_up (al A ((a7, pm_ia g 30 (fun _ => 0)) :: (a4, pm_ia g 30 (fun _ => 0)) :: (a1, pm_ia g 30 (fun _ => 0)) :: (a, pm_ob 5 [.ref a1, .ref a4, .null, .null, .null, .int 0]) :: ws)) a (pm_ob 5 (([.ref a1, .ref a4, .null, .null, .null, .int 0] : List Value).set 2 (.ref a7))) = al A ((a7, pm_ia g 30 (fun _ => 0)) :: (a4, pm_ia g 30 (fun _ => 0)) :: (a1, pm_ia g 30 (fun _ => 0)) :: (a, pm_ob 5 [.ref a1, .ref a4, .ref a7, .null, .null, .int 0]) :: ws) from al_set (k := 3) nd8 rfl rfl]
  have nd9 : (List.map Prod.fst ((a7, pm_ia g 30 (fun _ => 0)) :: (a4, pm_ia g 30 (fun _ => 0)) :: (a1, pm_ia g 30 (fun _ => 0)) :: (a, pm_ob 5 [.ref a1, .ref a4, .ref a7, .null, .null, .int 0]) :: ws)).Nodup := nd8
  refine And.intro rfl (And.intro rfl (fun a10 h10 => ?_))
  have g11 := al_none h10
  have nd11 : (List.map Prod.fst ((a10, pm_ia g 30 (fun _ => 0)) :: ((a7, pm_ia g 30 (fun _ => 0)) :: (a4, pm_ia g 30 (fun _ => 0)) :: (a1, pm_ia g 30 (fun _ => 0)) :: (a, pm_ob 5 [.ref a1, .ref a4, .ref a7, .null, .null, .int 0]) :: ws))).Nodup := al_nd nd9 h10
  rw [show pm_up (al A ((a7, pm_ia g 30 (fun _ => 0)) :: (a4, pm_ia g 30 (fun _ => 0)) :: (a1, pm_ia g 30 (fun _ => 0)) :: (a, pm_ob 5 [.ref a1, .ref a4, .ref a7, .null, .null, .int 0]) :: ws)) a10 (pm_ia g 30 (fun _ => 0)) = al A ((a10, pm_ia g 30 (fun _ => 0)) :: ((a7, pm_ia g 30 (fun _ => 0)) :: (a4, pm_ia g 30 (fun _ => 0)) :: (a1, pm_ia g 30 (fun _ => 0)) :: (a, pm_ob 5 [.ref a1, .ref a4, .ref a7, .null, .null, .int 0]) :: ws)) from rfl]
  refine Exists.intro _ (And.intro (al_get (k := 4) nd11 rfl) (And.intro rfl ?_))
  rw [show pm_up (al A ((a10, pm_ia g 30 (fun _ => 0)) :: (a7, pm_ia g 30 (fun _ => 0)) :: (a4, pm_ia g 30 (fun _ => 0)) :: (a1, pm_ia g 30 (fun _ => 0)) :: (a, pm_ob 5 [.ref a1, .ref a4, .ref a7, .null, .null, .int 0]) :: ws)) a (pm_ob 5 (([.ref a1, .ref a4, .ref a7, .null, .null, .int 0] : List Value).set 3 (.ref a10))) = al A ((a10, pm_ia g 30 (fun _ => 0)) :: (a7, pm_ia g 30 (fun _ => 0)) :: (a4, pm_ia g 30 (fun _ => 0)) :: (a1, pm_ia g 30 (fun _ => 0)) :: (a, pm_ob 5 [.ref a1, .ref a4, .ref a7, .ref a10, .null, .int 0]) :: ws) from al_set (k := 4) nd11 rfl rfl]
  have nd12 : (List.map Prod.fst ((a10, pm_ia g 30 (fun _ => 0)) :: (a7, pm_ia g 30 (fun _ => 0)) :: (a4, pm_ia g 30 (fun _ => 0)) :: (a1, pm_ia g 30 (fun _ => 0)) :: (a, pm_ob 5 [.ref a1, .ref a4, .ref a7, .ref a10, .null, .int 0]) :: ws)).Nodup := nd11
  refine And.intro rfl (And.intro rfl (fun a13 h13 => ?_))
  have g14 := al_none h13
  have nd14 : (List.map Prod.fst ((a13, pm_ia g 30 (fun _ => 0)) :: ((a10, pm_ia g 30 (fun _ => 0)) :: (a7, pm_ia g 30 (fun _ => 0)) :: (a4, pm_ia g 30 (fun _ => 0)) :: (a1, pm_ia g 30 (fun _ => 0)) :: (a, pm_ob 5 [.ref a1, .ref a4, .ref a7, .ref a10, .null, .int 0]) :: ws))).Nodup := al_nd nd12 h13
  rw [show pm_up (al A ((a10, pm_ia g 30 (fun _ => 0)) :: (a7, pm_ia g 30 (fun _ => 0)) :: (a4, pm_ia g 30 (fun _ => 0)) :: (a1, pm_ia g 30 (fun _ => 0)) :: (a, pm_ob 5 [.ref a1, .ref a4, .ref a7, .ref a10, .null, .int 0]) :: ws)) a13 (pm_ia g 30 (fun _ => 0)) = al A ((a13, pm_ia g 30 (fun _ => 0)) :: ((a10, pm_ia g 30 (fun _ => 0)) :: (a7, pm_ia g 30 (fun _ => 0)) :: (a4, pm_ia g 30 (fun _ => 0)) :: (a1, pm_ia g 30 (fun _ => 0)) :: (a, pm_ob 5 [.ref a1, .ref a4, .ref a7, .ref a10, .null, .int 0]) :: ws)) from rfl]
  refine Exists.intro _ (And.intro (al_get (k := 5) nd14 rfl) (And.intro rfl ?_))
  rw [show pm_up (al A ((a13, pm_ia g 30 (fun _ => 0)) :: (a10, pm_ia g 30 (fun _ => 0)) :: (a7, pm_ia g 30 (fun _ => 0)) :: (a4, pm_ia g 30 (fun _ => 0)) :: (a1, pm_ia g 30 (fun _ => 0)) :: (a, pm_ob 5 [.ref a1, .ref a4, .ref a7, .ref a10, .null, .int 0]) :: ws)) a (pm_ob 5 (([.ref a1, .ref a4, .ref a7, .ref a10, .null, .int 0] : List Value).set 4 (.ref a13))) = al A ((a13, pm_ia g 30 (fun _ => 0)) :: (a10, pm_ia g 30 (fun _ => 0)) :: (a7, pm_ia g 30 (fun _ => 0)) :: (a4, pm_ia g 30 (fun _ => 0)) :: (a1, pm_ia g 30 (fun _ => 0)) :: (a, pm_ob 5 [.ref a1, .ref a4, .ref a7, .ref a10, .ref a13, .int 0]) :: ws) from al_set (k := 5) nd14 rfl rfl]
  have nd15 : (List.map Prod.fst ((a13, pm_ia g 30 (fun _ => 0)) :: (a10, pm_ia g 30 (fun _ => 0)) :: (a7, pm_ia g 30 (fun _ => 0)) :: (a4, pm_ia g 30 (fun _ => 0)) :: (a1, pm_ia g 30 (fun _ => 0)) :: (a, pm_ob 5 [.ref a1, .ref a4, .ref a7, .ref a10, .ref a13, .int 0]) :: ws)).Nodup := nd14
  exact ⟨rfl, rfl, rfl, a1, a4, a7, a10, a13, rfl, nd15, g2.2, g5.2, g8.2, g11.2, g14.2⟩
end
